section
-- ===== PART A: goes FIRST, ahead of the names: the tables' words, and 'selects' of the private methods out of them =====
/-- a private method of a class that the tables say can be made, by its rows of tables_1 -/
def lw_okq (q : MethodName × Nat) : Prop := (q.1.cls ≠ "java/lang/invoke/MethodHandle" ∧ q.1.cls ≠ "java/lang/invoke/VarHandle") ∧ Cond.instantiable q.1.cls q.2 ∈ tables_1 ∧ Cond.privateMethod q.1 ∈ tables_1 ∧ Cond.instanceMethod q.1 ∈ tables_1
theorem lw_p0 : lw_okq (⟨"DecimalPatterns$PatternMaker", "beginSub", "(LDecimalPatterns$Sub;)V"⟩, 5) := ⟨⟨by decide +kernel, by decide +kernel⟩, List.mem_of_getElem? (i := 213) (by decide +kernel), List.mem_of_getElem? (i := 302) (by decide +kernel), List.mem_of_getElem? (i := 303) (by decide +kernel)⟩
theorem lw_p1 : lw_okq (⟨"DecimalPatterns$PatternMaker", "take", "(I)Z"⟩, 5) := ⟨⟨by decide +kernel, by decide +kernel⟩, List.mem_of_getElem? (i := 213) (by decide +kernel), List.mem_of_getElem? (i := 314) (by decide +kernel), List.mem_of_getElem? (i := 315) (by decide +kernel)⟩
theorem lw_p2 : lw_okq (⟨"DecimalPatterns$PatternMaker", "takeQuoted", "(I)V"⟩, 5) := ⟨⟨by decide +kernel, by decide +kernel⟩, List.mem_of_getElem? (i := 213) (by decide +kernel), List.mem_of_getElem? (i := 318) (by decide +kernel), List.mem_of_getElem? (i := 319) (by decide +kernel)⟩
theorem lw_p3 : lw_okq (⟨"DecimalPatterns$PatternMaker", "openAffix", "()LDecimalPatterns$Row;"⟩, 5) := ⟨⟨by decide +kernel, by decide +kernel⟩, List.mem_of_getElem? (i := 213) (by decide +kernel), List.mem_of_getElem? (i := 322) (by decide +kernel), List.mem_of_getElem? (i := 323) (by decide +kernel)⟩
theorem lw_p4 : lw_okq (⟨"DecimalPatterns$PatternMaker", "takeHash", "()Z"⟩, 5) := ⟨⟨by decide +kernel, by decide +kernel⟩, List.mem_of_getElem? (i := 213) (by decide +kernel), List.mem_of_getElem? (i := 327) (by decide +kernel), List.mem_of_getElem? (i := 328) (by decide +kernel)⟩
theorem lw_p5 : lw_okq (⟨"DecimalPatterns$PatternMaker", "inInteger", "()Z"⟩, 5) := ⟨⟨by decide +kernel, by decide +kernel⟩, List.mem_of_getElem? (i := 213) (by decide +kernel), List.mem_of_getElem? (i := 331) (by decide +kernel), List.mem_of_getElem? (i := 332) (by decide +kernel)⟩
theorem lw_p6 : lw_okq (⟨"DecimalPatterns$PatternMaker", "takeZero", "()Z"⟩, 5) := ⟨⟨by decide +kernel, by decide +kernel⟩, List.mem_of_getElem? (i := 213) (by decide +kernel), List.mem_of_getElem? (i := 335) (by decide +kernel), List.mem_of_getElem? (i := 336) (by decide +kernel)⟩
theorem lw_p7 : lw_okq (⟨"DecimalPatterns$PatternMaker", "takeFractionZero", "()Z"⟩, 5) := ⟨⟨by decide +kernel, by decide +kernel⟩, List.mem_of_getElem? (i := 213) (by decide +kernel), List.mem_of_getElem? (i := 339) (by decide +kernel), List.mem_of_getElem? (i := 340) (by decide +kernel)⟩
theorem lw_p8 : lw_okq (⟨"DecimalPatterns$PatternMaker", "takeComma", "()Z"⟩, 5) := ⟨⟨by decide +kernel, by decide +kernel⟩, List.mem_of_getElem? (i := 213) (by decide +kernel), List.mem_of_getElem? (i := 343) (by decide +kernel), List.mem_of_getElem? (i := 344) (by decide +kernel)⟩
theorem lw_p9 : lw_okq (⟨"DecimalPatterns$PatternMaker", "takePoint", "()Z"⟩, 5) := ⟨⟨by decide +kernel, by decide +kernel⟩, List.mem_of_getElem? (i := 213) (by decide +kernel), List.mem_of_getElem? (i := 347) (by decide +kernel), List.mem_of_getElem? (i := 348) (by decide +kernel)⟩
theorem lw_p10 : lw_okq (⟨"DecimalPatterns$PatternMaker", "takeE", "()Z"⟩, 5) := ⟨⟨by decide +kernel, by decide +kernel⟩, List.mem_of_getElem? (i := 213) (by decide +kernel), List.mem_of_getElem? (i := 351) (by decide +kernel), List.mem_of_getElem? (i := 352) (by decide +kernel)⟩
theorem lw_p11 : lw_okq (⟨"DecimalPatterns$PatternMaker", "takeSemicolon", "()Z"⟩, 5) := ⟨⟨by decide +kernel, by decide +kernel⟩, List.mem_of_getElem? (i := 213) (by decide +kernel), List.mem_of_getElem? (i := 355) (by decide +kernel), List.mem_of_getElem? (i := 356) (by decide +kernel)⟩
theorem lw_p12 : lw_okq (⟨"DecimalPatterns$PatternMaker", "numberEnded", "()Z"⟩, 5) := ⟨⟨by decide +kernel, by decide +kernel⟩, List.mem_of_getElem? (i := 213) (by decide +kernel), List.mem_of_getElem? (i := 359) (by decide +kernel), List.mem_of_getElem? (i := 360) (by decide +kernel)⟩
theorem lw_p13 : lw_okq (⟨"DecimalPatterns$PatternMaker", "takePlus", "()Z"⟩, 5) := ⟨⟨by decide +kernel, by decide +kernel⟩, List.mem_of_getElem? (i := 213) (by decide +kernel), List.mem_of_getElem? (i := 363) (by decide +kernel), List.mem_of_getElem? (i := 364) (by decide +kernel)⟩
theorem lw_p14 : lw_okq (⟨"DecimalPatterns$PatternMaker", "takeAffix", "(I)Z"⟩, 5) := ⟨⟨by decide +kernel, by decide +kernel⟩, List.mem_of_getElem? (i := 213) (by decide +kernel), List.mem_of_getElem? (i := 367) (by decide +kernel), List.mem_of_getElem? (i := 368) (by decide +kernel)⟩
theorem lw_p15 : lw_okq (⟨"DecimalPatterns$PatternMaker", "enterAffix", "()Z"⟩, 5) := ⟨⟨by decide +kernel, by decide +kernel⟩, List.mem_of_getElem? (i := 213) (by decide +kernel), List.mem_of_getElem? (i := 371) (by decide +kernel), List.mem_of_getElem? (i := 372) (by decide +kernel)⟩
def lw_privs_1 : List (MethodName × Nat) := [(⟨"DecimalPatterns$PatternMaker", "beginSub", "(LDecimalPatterns$Sub;)V"⟩, 5), (⟨"DecimalPatterns$PatternMaker", "take", "(I)Z"⟩, 5), (⟨"DecimalPatterns$PatternMaker", "takeQuoted", "(I)V"⟩, 5), (⟨"DecimalPatterns$PatternMaker", "openAffix", "()LDecimalPatterns$Row;"⟩, 5), (⟨"DecimalPatterns$PatternMaker", "takeHash", "()Z"⟩, 5), (⟨"DecimalPatterns$PatternMaker", "inInteger", "()Z"⟩, 5), (⟨"DecimalPatterns$PatternMaker", "takeZero", "()Z"⟩, 5), (⟨"DecimalPatterns$PatternMaker", "takeFractionZero", "()Z"⟩, 5), (⟨"DecimalPatterns$PatternMaker", "takeComma", "()Z"⟩, 5), (⟨"DecimalPatterns$PatternMaker", "takePoint", "()Z"⟩, 5), (⟨"DecimalPatterns$PatternMaker", "takeE", "()Z"⟩, 5), (⟨"DecimalPatterns$PatternMaker", "takeSemicolon", "()Z"⟩, 5), (⟨"DecimalPatterns$PatternMaker", "numberEnded", "()Z"⟩, 5), (⟨"DecimalPatterns$PatternMaker", "takePlus", "()Z"⟩, 5), (⟨"DecimalPatterns$PatternMaker", "takeAffix", "(I)Z"⟩, 5), (⟨"DecimalPatterns$PatternMaker", "enterAffix", "()Z"⟩, 5)]
theorem lw_r1 : ∀ q ∈ lw_privs_1, lw_okq q := List.forall_mem_cons.mpr ⟨lw_p0, List.forall_mem_cons.mpr ⟨lw_p1, List.forall_mem_cons.mpr ⟨lw_p2, List.forall_mem_cons.mpr ⟨lw_p3, List.forall_mem_cons.mpr ⟨lw_p4, List.forall_mem_cons.mpr ⟨lw_p5, List.forall_mem_cons.mpr ⟨lw_p6, List.forall_mem_cons.mpr ⟨lw_p7, List.forall_mem_cons.mpr ⟨lw_p8, List.forall_mem_cons.mpr ⟨lw_p9, List.forall_mem_cons.mpr ⟨lw_p10, List.forall_mem_cons.mpr ⟨lw_p11, List.forall_mem_cons.mpr ⟨lw_p12, List.forall_mem_cons.mpr ⟨lw_p13, List.forall_mem_cons.mpr ⟨lw_p14, List.forall_mem_cons.mpr ⟨lw_p15, fun _ h => absurd h List.not_mem_nil⟩⟩⟩⟩⟩⟩⟩⟩⟩⟩⟩⟩⟩⟩⟩⟩
theorem lw_p16 : lw_okq (⟨"DecimalPatterns$Symbols", "areSound", "()Z"⟩, 2) := ⟨⟨by decide +kernel, by decide +kernel⟩, List.mem_of_getElem? (i := 42) (by decide +kernel), List.mem_of_getElem? (i := 383) (by decide +kernel), List.mem_of_getElem? (i := 384) (by decide +kernel)⟩
theorem lw_p17 : lw_okq (⟨"DecimalPatterns$Symbols", "standsBefore", "(II)Z"⟩, 2) := ⟨⟨by decide +kernel, by decide +kernel⟩, List.mem_of_getElem? (i := 42) (by decide +kernel), List.mem_of_getElem? (i := 396) (by decide +kernel), List.mem_of_getElem? (i := 397) (by decide +kernel)⟩
theorem lw_p18 : lw_okq (⟨"DecimalPatterns$Amount", "clearBelow", "(I)V"⟩, 1) := ⟨⟨by decide +kernel, by decide +kernel⟩, List.mem_of_getElem? (i := 65) (by decide +kernel), List.mem_of_getElem? (i := 416) (by decide +kernel), List.mem_of_getElem? (i := 417) (by decide +kernel)⟩
theorem lw_p19 : lw_okq (⟨"DecimalPatterns$Amount", "put", "(II)V"⟩, 1) := ⟨⟨by decide +kernel, by decide +kernel⟩, List.mem_of_getElem? (i := 65) (by decide +kernel), List.mem_of_getElem? (i := 421) (by decide +kernel), List.mem_of_getElem? (i := 422) (by decide +kernel)⟩
theorem lw_p20 : lw_okq (⟨"DecimalPatterns$Scribe", "roundingPower", "(LDecimalPatterns$Sub;)I"⟩, 3) := ⟨⟨by decide +kernel, by decide +kernel⟩, List.mem_of_getElem? (i := 57) (by decide +kernel), List.mem_of_getElem? (i := 425) (by decide +kernel), List.mem_of_getElem? (i := 426) (by decide +kernel)⟩
theorem lw_p21 : lw_okq (⟨"DecimalPatterns$Amount", "anyBelow", "(I)Z"⟩, 1) := ⟨⟨by decide +kernel, by decide +kernel⟩, List.mem_of_getElem? (i := 65) (by decide +kernel), List.mem_of_getElem? (i := 445) (by decide +kernel), List.mem_of_getElem? (i := 446) (by decide +kernel)⟩
theorem lw_p22 : lw_okq (⟨"DecimalPatterns$Amount", "goesUp", "(IIZ)Z"⟩, 1) := ⟨⟨by decide +kernel, by decide +kernel⟩, List.mem_of_getElem? (i := 65) (by decide +kernel), List.mem_of_getElem? (i := 449) (by decide +kernel), List.mem_of_getElem? (i := 450) (by decide +kernel)⟩
theorem lw_p23 : lw_okq (⟨"DecimalPatterns$Amount", "againstHalf", "(I)I"⟩, 1) := ⟨⟨by decide +kernel, by decide +kernel⟩, List.mem_of_getElem? (i := 65) (by decide +kernel), List.mem_of_getElem? (i := 453) (by decide +kernel), List.mem_of_getElem? (i := 454) (by decide +kernel)⟩
theorem lw_p24 : lw_okq (⟨"DecimalPatterns$Amount", "addOneAt", "(I)V"⟩, 1) := ⟨⟨by decide +kernel, by decide +kernel⟩, List.mem_of_getElem? (i := 65) (by decide +kernel), List.mem_of_getElem? (i := 457) (by decide +kernel), List.mem_of_getElem? (i := 458) (by decide +kernel)⟩
theorem lw_p25 : lw_okq (⟨"DecimalPatterns$Scribe", "putSymbol", "(I)V"⟩, 3) := ⟨⟨by decide +kernel, by decide +kernel⟩, List.mem_of_getElem? (i := 57) (by decide +kernel), List.mem_of_getElem? (i := 470) (by decide +kernel), List.mem_of_getElem? (i := 471) (by decide +kernel)⟩
theorem lw_p26 : lw_okq (⟨"DecimalPatterns$Scribe", "putAffix", "(LDecimalPatterns$Row;)V"⟩, 3) := ⟨⟨by decide +kernel, by decide +kernel⟩, List.mem_of_getElem? (i := 57) (by decide +kernel), List.mem_of_getElem? (i := 479) (by decide +kernel), List.mem_of_getElem? (i := 480) (by decide +kernel)⟩
theorem lw_p27 : lw_okq (⟨"DecimalPatterns$Scribe", "exponentFor", "(LDecimalPatterns$Sub;)I"⟩, 3) := ⟨⟨by decide +kernel, by decide +kernel⟩, List.mem_of_getElem? (i := 57) (by decide +kernel), List.mem_of_getElem? (i := 484) (by decide +kernel), List.mem_of_getElem? (i := 485) (by decide +kernel)⟩
theorem lw_p28 : lw_okq (⟨"DecimalPatterns$Scribe", "putDigits", "(LDecimalPatterns$Sub;I)V"⟩, 3) := ⟨⟨by decide +kernel, by decide +kernel⟩, List.mem_of_getElem? (i := 57) (by decide +kernel), List.mem_of_getElem? (i := 495) (by decide +kernel), List.mem_of_getElem? (i := 496) (by decide +kernel)⟩
theorem lw_p29 : lw_okq (⟨"DecimalPatterns$Scribe", "putWhole", "(LDecimalPatterns$Sub;II)V"⟩, 3) := ⟨⟨by decide +kernel, by decide +kernel⟩, List.mem_of_getElem? (i := 57) (by decide +kernel), List.mem_of_getElem? (i := 504) (by decide +kernel), List.mem_of_getElem? (i := 505) (by decide +kernel)⟩
theorem lw_p30 : lw_okq (⟨"DecimalPatterns$Scribe", "putDigit", "(I)V"⟩, 3) := ⟨⟨by decide +kernel, by decide +kernel⟩, List.mem_of_getElem? (i := 57) (by decide +kernel), List.mem_of_getElem? (i := 509) (by decide +kernel), List.mem_of_getElem? (i := 510) (by decide +kernel)⟩
theorem lw_p31 : lw_okq (⟨"DecimalPatterns$Scribe", "putExponent", "(LDecimalPatterns$Sub;I)V"⟩, 3) := ⟨⟨by decide +kernel, by decide +kernel⟩, List.mem_of_getElem? (i := 57) (by decide +kernel), List.mem_of_getElem? (i := 518) (by decide +kernel), List.mem_of_getElem? (i := 519) (by decide +kernel)⟩
def lw_privs_2 : List (MethodName × Nat) := [(⟨"DecimalPatterns$Symbols", "areSound", "()Z"⟩, 2), (⟨"DecimalPatterns$Symbols", "standsBefore", "(II)Z"⟩, 2), (⟨"DecimalPatterns$Amount", "clearBelow", "(I)V"⟩, 1), (⟨"DecimalPatterns$Amount", "put", "(II)V"⟩, 1), (⟨"DecimalPatterns$Scribe", "roundingPower", "(LDecimalPatterns$Sub;)I"⟩, 3), (⟨"DecimalPatterns$Amount", "anyBelow", "(I)Z"⟩, 1), (⟨"DecimalPatterns$Amount", "goesUp", "(IIZ)Z"⟩, 1), (⟨"DecimalPatterns$Amount", "againstHalf", "(I)I"⟩, 1), (⟨"DecimalPatterns$Amount", "addOneAt", "(I)V"⟩, 1), (⟨"DecimalPatterns$Scribe", "putSymbol", "(I)V"⟩, 3), (⟨"DecimalPatterns$Scribe", "putAffix", "(LDecimalPatterns$Row;)V"⟩, 3), (⟨"DecimalPatterns$Scribe", "exponentFor", "(LDecimalPatterns$Sub;)I"⟩, 3), (⟨"DecimalPatterns$Scribe", "putDigits", "(LDecimalPatterns$Sub;I)V"⟩, 3), (⟨"DecimalPatterns$Scribe", "putWhole", "(LDecimalPatterns$Sub;II)V"⟩, 3), (⟨"DecimalPatterns$Scribe", "putDigit", "(I)V"⟩, 3), (⟨"DecimalPatterns$Scribe", "putExponent", "(LDecimalPatterns$Sub;I)V"⟩, 3)]
theorem lw_r2 : ∀ q ∈ lw_privs_2, lw_okq q := List.forall_mem_cons.mpr ⟨lw_p16, List.forall_mem_cons.mpr ⟨lw_p17, List.forall_mem_cons.mpr ⟨lw_p18, List.forall_mem_cons.mpr ⟨lw_p19, List.forall_mem_cons.mpr ⟨lw_p20, List.forall_mem_cons.mpr ⟨lw_p21, List.forall_mem_cons.mpr ⟨lw_p22, List.forall_mem_cons.mpr ⟨lw_p23, List.forall_mem_cons.mpr ⟨lw_p24, List.forall_mem_cons.mpr ⟨lw_p25, List.forall_mem_cons.mpr ⟨lw_p26, List.forall_mem_cons.mpr ⟨lw_p27, List.forall_mem_cons.mpr ⟨lw_p28, List.forall_mem_cons.mpr ⟨lw_p29, List.forall_mem_cons.mpr ⟨lw_p30, List.forall_mem_cons.mpr ⟨lw_p31, fun _ h => absurd h List.not_mem_nil⟩⟩⟩⟩⟩⟩⟩⟩⟩⟩⟩⟩⟩⟩⟩⟩
theorem lw_p32 : lw_okq (⟨"DecimalPatterns$Finder", "gather", "(LDecimalPatterns$Pattern;LDecimalPatterns$Row;Z)Z"⟩, 8) := ⟨⟨by decide +kernel, by decide +kernel⟩, List.mem_of_getElem? (i := 87) (by decide +kernel), List.mem_of_getElem? (i := 564) (by decide +kernel), List.mem_of_getElem? (i := 565) (by decide +kernel)⟩
theorem lw_p33 : lw_okq (⟨"DecimalPatterns$Finder", "begin", "()V"⟩, 8) := ⟨⟨by decide +kernel, by decide +kernel⟩, List.mem_of_getElem? (i := 87) (by decide +kernel), List.mem_of_getElem? (i := 568) (by decide +kernel), List.mem_of_getElem? (i := 569) (by decide +kernel)⟩
theorem lw_p34 : lw_okq (⟨"DecimalPatterns$Finder", "take", "(I)Z"⟩, 8) := ⟨⟨by decide +kernel, by decide +kernel⟩, List.mem_of_getElem? (i := 87) (by decide +kernel), List.mem_of_getElem? (i := 575) (by decide +kernel), List.mem_of_getElem? (i := 576) (by decide +kernel)⟩
theorem lw_p35 : lw_okq (⟨"DecimalPatterns$Finder", "takeDigit", "(I)Z"⟩, 8) := ⟨⟨by decide +kernel, by decide +kernel⟩, List.mem_of_getElem? (i := 87) (by decide +kernel), List.mem_of_getElem? (i := 580) (by decide +kernel), List.mem_of_getElem? (i := 581) (by decide +kernel)⟩
theorem lw_p36 : lw_okq (⟨"DecimalPatterns$Finder", "takeZerosBehind", "()Z"⟩, 8) := ⟨⟨by decide +kernel, by decide +kernel⟩, List.mem_of_getElem? (i := 87) (by decide +kernel), List.mem_of_getElem? (i := 584) (by decide +kernel), List.mem_of_getElem? (i := 585) (by decide +kernel)⟩
theorem lw_p37 : lw_okq (⟨"DecimalPatterns$Finder", "append", "(I)Z"⟩, 8) := ⟨⟨by decide +kernel, by decide +kernel⟩, List.mem_of_getElem? (i := 87) (by decide +kernel), List.mem_of_getElem? (i := 588) (by decide +kernel), List.mem_of_getElem? (i := 589) (by decide +kernel)⟩
theorem lw_p38 : lw_okq (⟨"DecimalPatterns$Finder", "enter", "(I)Z"⟩, 8) := ⟨⟨by decide +kernel, by decide +kernel⟩, List.mem_of_getElem? (i := 87) (by decide +kernel), List.mem_of_getElem? (i := 595) (by decide +kernel), List.mem_of_getElem? (i := 596) (by decide +kernel)⟩
theorem lw_p39 : lw_okq (⟨"DecimalPatterns$Finder", "settle", "(Z)Z"⟩, 8) := ⟨⟨by decide +kernel, by decide +kernel⟩, List.mem_of_getElem? (i := 87) (by decide +kernel), List.mem_of_getElem? (i := 599) (by decide +kernel), List.mem_of_getElem? (i := 600) (by decide +kernel)⟩
theorem lw_p40 : lw_okq (⟨"DecimalPatterns", "keepFound", "(JI)V"⟩, 10) := ⟨⟨by decide +kernel, by decide +kernel⟩, List.mem_of_getElem? (i := 13) (by decide +kernel), List.mem_of_getElem? (i := 608) (by decide +kernel), List.mem_of_getElem? (i := 609) (by decide +kernel)⟩
theorem lw_p41 : lw_okq (⟨"DecimalPatternsModel", "begin", "(I)V"⟩, 24) := ⟨⟨by decide +kernel, by decide +kernel⟩, List.mem_of_getElem? (i := 620) (by decide +kernel), List.mem_of_getElem? (i := 711) (by decide +kernel), List.mem_of_getElem? (i := 712) (by decide +kernel)⟩
theorem lw_p42 : lw_okq (⟨"DecimalPatternsModel", "step", "(I)Z"⟩, 24) := ⟨⟨by decide +kernel, by decide +kernel⟩, List.mem_of_getElem? (i := 620) (by decide +kernel), List.mem_of_getElem? (i := 715) (by decide +kernel), List.mem_of_getElem? (i := 716) (by decide +kernel)⟩
theorem lw_p43 : lw_okq (⟨"DecimalPatternsModel", "integerDigit", "(I)Z"⟩, 24) := ⟨⟨by decide +kernel, by decide +kernel⟩, List.mem_of_getElem? (i := 620) (by decide +kernel), List.mem_of_getElem? (i := 719) (by decide +kernel), List.mem_of_getElem? (i := 720) (by decide +kernel)⟩
theorem lw_p44 : lw_okq (⟨"DecimalPatternsModel", "plainAffix", "(II)Z"⟩, 24) := ⟨⟨by decide +kernel, by decide +kernel⟩, List.mem_of_getElem? (i := 620) (by decide +kernel), List.mem_of_getElem? (i := 723) (by decide +kernel), List.mem_of_getElem? (i := 724) (by decide +kernel)⟩
theorem lw_p45 : lw_okq (⟨"DecimalPatternsModel", "keep", "(I)V"⟩, 24) := ⟨⟨by decide +kernel, by decide +kernel⟩, List.mem_of_getElem? (i := 620) (by decide +kernel), List.mem_of_getElem? (i := 730) (by decide +kernel), List.mem_of_getElem? (i := 731) (by decide +kernel)⟩
theorem lw_p46 : lw_okq (⟨"DecimalPatternsModel", "inQuote", "(II)V"⟩, 24) := ⟨⟨by decide +kernel, by decide +kernel⟩, List.mem_of_getElem? (i := 620) (by decide +kernel), List.mem_of_getElem? (i := 734) (by decide +kernel), List.mem_of_getElem? (i := 735) (by decide +kernel)⟩
theorem lw_p47 : lw_okq (⟨"DecimalPatternsModel", "inNumber", "(I)Z"⟩, 24) := ⟨⟨by decide +kernel, by decide +kernel⟩, List.mem_of_getElem? (i := 620) (by decide +kernel), List.mem_of_getElem? (i := 738) (by decide +kernel), List.mem_of_getElem? (i := 739) (by decide +kernel)⟩
def lw_privs_3 : List (MethodName × Nat) := [(⟨"DecimalPatterns$Finder", "gather", "(LDecimalPatterns$Pattern;LDecimalPatterns$Row;Z)Z"⟩, 8), (⟨"DecimalPatterns$Finder", "begin", "()V"⟩, 8), (⟨"DecimalPatterns$Finder", "take", "(I)Z"⟩, 8), (⟨"DecimalPatterns$Finder", "takeDigit", "(I)Z"⟩, 8), (⟨"DecimalPatterns$Finder", "takeZerosBehind", "()Z"⟩, 8), (⟨"DecimalPatterns$Finder", "append", "(I)Z"⟩, 8), (⟨"DecimalPatterns$Finder", "enter", "(I)Z"⟩, 8), (⟨"DecimalPatterns$Finder", "settle", "(Z)Z"⟩, 8), (⟨"DecimalPatterns", "keepFound", "(JI)V"⟩, 10), (⟨"DecimalPatternsModel", "begin", "(I)V"⟩, 24), (⟨"DecimalPatternsModel", "step", "(I)Z"⟩, 24), (⟨"DecimalPatternsModel", "integerDigit", "(I)Z"⟩, 24), (⟨"DecimalPatternsModel", "plainAffix", "(II)Z"⟩, 24), (⟨"DecimalPatternsModel", "keep", "(I)V"⟩, 24), (⟨"DecimalPatternsModel", "inQuote", "(II)V"⟩, 24), (⟨"DecimalPatternsModel", "inNumber", "(I)Z"⟩, 24)]
theorem lw_r3 : ∀ q ∈ lw_privs_3, lw_okq q := List.forall_mem_cons.mpr ⟨lw_p32, List.forall_mem_cons.mpr ⟨lw_p33, List.forall_mem_cons.mpr ⟨lw_p34, List.forall_mem_cons.mpr ⟨lw_p35, List.forall_mem_cons.mpr ⟨lw_p36, List.forall_mem_cons.mpr ⟨lw_p37, List.forall_mem_cons.mpr ⟨lw_p38, List.forall_mem_cons.mpr ⟨lw_p39, List.forall_mem_cons.mpr ⟨lw_p40, List.forall_mem_cons.mpr ⟨lw_p41, List.forall_mem_cons.mpr ⟨lw_p42, List.forall_mem_cons.mpr ⟨lw_p43, List.forall_mem_cons.mpr ⟨lw_p44, List.forall_mem_cons.mpr ⟨lw_p45, List.forall_mem_cons.mpr ⟨lw_p46, List.forall_mem_cons.mpr ⟨lw_p47, fun _ h => absurd h List.not_mem_nil⟩⟩⟩⟩⟩⟩⟩⟩⟩⟩⟩⟩⟩⟩⟩⟩
theorem lw_p48 : lw_okq (⟨"DecimalPatternsModel", "power", "()Z"⟩, 24) := ⟨⟨by decide +kernel, by decide +kernel⟩, List.mem_of_getElem? (i := 620) (by decide +kernel), List.mem_of_getElem? (i := 742) (by decide +kernel), List.mem_of_getElem? (i := 743) (by decide +kernel)⟩
theorem lw_p49 : lw_okq (⟨"DecimalPatternsModel", "behind", "(I)Z"⟩, 24) := ⟨⟨by decide +kernel, by decide +kernel⟩, List.mem_of_getElem? (i := 620) (by decide +kernel), List.mem_of_getElem? (i := 746) (by decide +kernel), List.mem_of_getElem? (i := 747) (by decide +kernel)⟩
theorem lw_p50 : lw_okq (⟨"DecimalPatternsModel", "inFraction", "(I)Z"⟩, 24) := ⟨⟨by decide +kernel, by decide +kernel⟩, List.mem_of_getElem? (i := 620) (by decide +kernel), List.mem_of_getElem? (i := 753) (by decide +kernel), List.mem_of_getElem? (i := 754) (by decide +kernel)⟩
theorem lw_p51 : lw_okq (⟨"DecimalPatternsModel", "sign", "(I)I"⟩, 24) := ⟨⟨by decide +kernel, by decide +kernel⟩, List.mem_of_getElem? (i := 620) (by decide +kernel), List.mem_of_getElem? (i := 761) (by decide +kernel), List.mem_of_getElem? (i := 762) (by decide +kernel)⟩
theorem lw_p52 : lw_okq (⟨"DecimalPatternsModel", "render", "(ZJII)Z"⟩, 24) := ⟨⟨by decide +kernel, by decide +kernel⟩, List.mem_of_getElem? (i := 620) (by decide +kernel), List.mem_of_getElem? (i := 773) (by decide +kernel), List.mem_of_getElem? (i := 774) (by decide +kernel)⟩
theorem lw_p53 : lw_okq (⟨"DecimalPatternsModel", "load", "(JI)V"⟩, 24) := ⟨⟨by decide +kernel, by decide +kernel⟩, List.mem_of_getElem? (i := 620) (by decide +kernel), List.mem_of_getElem? (i := 777) (by decide +kernel), List.mem_of_getElem? (i := 778) (by decide +kernel)⟩
theorem lw_p54 : lw_okq (⟨"DecimalPatternsModel", "percent", "()Z"⟩, 24) := ⟨⟨by decide +kernel, by decide +kernel⟩, List.mem_of_getElem? (i := 620) (by decide +kernel), List.mem_of_getElem? (i := 781) (by decide +kernel), List.mem_of_getElem? (i := 782) (by decide +kernel)⟩
theorem lw_p55 : lw_okq (⟨"DecimalPatternsModel", "round", "(IZI)Z"⟩, 24) := ⟨⟨by decide +kernel, by decide +kernel⟩, List.mem_of_getElem? (i := 620) (by decide +kernel), List.mem_of_getElem? (i := 786) (by decide +kernel), List.mem_of_getElem? (i := 787) (by decide +kernel)⟩
theorem lw_p56 : lw_okq (⟨"DecimalPatternsModel", "below", "(I)Z"⟩, 24) := ⟨⟨by decide +kernel, by decide +kernel⟩, List.mem_of_getElem? (i := 620) (by decide +kernel), List.mem_of_getElem? (i := 790) (by decide +kernel), List.mem_of_getElem? (i := 791) (by decide +kernel)⟩
theorem lw_p57 : lw_okq (⟨"DecimalPatternsModel", "digitAt", "(I)I"⟩, 24) := ⟨⟨by decide +kernel, by decide +kernel⟩, List.mem_of_getElem? (i := 620) (by decide +kernel), List.mem_of_getElem? (i := 794) (by decide +kernel), List.mem_of_getElem? (i := 795) (by decide +kernel)⟩
theorem lw_p58 : lw_okq (⟨"DecimalPatternsModel", "upwards", "(IZI)Z"⟩, 24) := ⟨⟨by decide +kernel, by decide +kernel⟩, List.mem_of_getElem? (i := 620) (by decide +kernel), List.mem_of_getElem? (i := 798) (by decide +kernel), List.mem_of_getElem? (i := 799) (by decide +kernel)⟩
theorem lw_p59 : lw_okq (⟨"DecimalPatternsModel", "top", "()I"⟩, 24) := ⟨⟨by decide +kernel, by decide +kernel⟩, List.mem_of_getElem? (i := 620) (by decide +kernel), List.mem_of_getElem? (i := 802) (by decide +kernel), List.mem_of_getElem? (i := 803) (by decide +kernel)⟩
theorem lw_p60 : lw_okq (⟨"DecimalPatternsModel", "put", "(I)V"⟩, 24) := ⟨⟨by decide +kernel, by decide +kernel⟩, List.mem_of_getElem? (i := 620) (by decide +kernel), List.mem_of_getElem? (i := 809) (by decide +kernel), List.mem_of_getElem? (i := 810) (by decide +kernel)⟩
theorem lw_p61 : lw_okq (⟨"DecimalPatternsModel", "putAffix", "(I)V"⟩, 24) := ⟨⟨by decide +kernel, by decide +kernel⟩, List.mem_of_getElem? (i := 620) (by decide +kernel), List.mem_of_getElem? (i := 813) (by decide +kernel), List.mem_of_getElem? (i := 814) (by decide +kernel)⟩
theorem lw_p62 : lw_okq (⟨"DecimalPatternsModel", "putDigits", "(I)V"⟩, 24) := ⟨⟨by decide +kernel, by decide +kernel⟩, List.mem_of_getElem? (i := 620) (by decide +kernel), List.mem_of_getElem? (i := 817) (by decide +kernel), List.mem_of_getElem? (i := 818) (by decide +kernel)⟩
theorem lw_p63 : lw_okq (⟨"DecimalPatternsModel", "border", "(I)Z"⟩, 24) := ⟨⟨by decide +kernel, by decide +kernel⟩, List.mem_of_getElem? (i := 620) (by decide +kernel), List.mem_of_getElem? (i := 821) (by decide +kernel), List.mem_of_getElem? (i := 822) (by decide +kernel)⟩
def lw_privs_4 : List (MethodName × Nat) := [(⟨"DecimalPatternsModel", "power", "()Z"⟩, 24), (⟨"DecimalPatternsModel", "behind", "(I)Z"⟩, 24), (⟨"DecimalPatternsModel", "inFraction", "(I)Z"⟩, 24), (⟨"DecimalPatternsModel", "sign", "(I)I"⟩, 24), (⟨"DecimalPatternsModel", "render", "(ZJII)Z"⟩, 24), (⟨"DecimalPatternsModel", "load", "(JI)V"⟩, 24), (⟨"DecimalPatternsModel", "percent", "()Z"⟩, 24), (⟨"DecimalPatternsModel", "round", "(IZI)Z"⟩, 24), (⟨"DecimalPatternsModel", "below", "(I)Z"⟩, 24), (⟨"DecimalPatternsModel", "digitAt", "(I)I"⟩, 24), (⟨"DecimalPatternsModel", "upwards", "(IZI)Z"⟩, 24), (⟨"DecimalPatternsModel", "top", "()I"⟩, 24), (⟨"DecimalPatternsModel", "put", "(I)V"⟩, 24), (⟨"DecimalPatternsModel", "putAffix", "(I)V"⟩, 24), (⟨"DecimalPatternsModel", "putDigits", "(I)V"⟩, 24), (⟨"DecimalPatternsModel", "border", "(I)Z"⟩, 24)]
theorem lw_r4 : ∀ q ∈ lw_privs_4, lw_okq q := List.forall_mem_cons.mpr ⟨lw_p48, List.forall_mem_cons.mpr ⟨lw_p49, List.forall_mem_cons.mpr ⟨lw_p50, List.forall_mem_cons.mpr ⟨lw_p51, List.forall_mem_cons.mpr ⟨lw_p52, List.forall_mem_cons.mpr ⟨lw_p53, List.forall_mem_cons.mpr ⟨lw_p54, List.forall_mem_cons.mpr ⟨lw_p55, List.forall_mem_cons.mpr ⟨lw_p56, List.forall_mem_cons.mpr ⟨lw_p57, List.forall_mem_cons.mpr ⟨lw_p58, List.forall_mem_cons.mpr ⟨lw_p59, List.forall_mem_cons.mpr ⟨lw_p60, List.forall_mem_cons.mpr ⟨lw_p61, List.forall_mem_cons.mpr ⟨lw_p62, List.forall_mem_cons.mpr ⟨lw_p63, fun _ h => absurd h List.not_mem_nil⟩⟩⟩⟩⟩⟩⟩⟩⟩⟩⟩⟩⟩⟩⟩⟩
theorem lw_p64 : lw_okq (⟨"DecimalPatternsModel", "putExponent", "(I)V"⟩, 24) := ⟨⟨by decide +kernel, by decide +kernel⟩, List.mem_of_getElem? (i := 620) (by decide +kernel), List.mem_of_getElem? (i := 825) (by decide +kernel), List.mem_of_getElem? (i := 826) (by decide +kernel)⟩
theorem lw_p65 : lw_okq (⟨"DecimalPatternsModel", "readAs", "(Z)Z"⟩, 24) := ⟨⟨by decide +kernel, by decide +kernel⟩, List.mem_of_getElem? (i := 620) (by decide +kernel), List.mem_of_getElem? (i := 849) (by decide +kernel), List.mem_of_getElem? (i := 850) (by decide +kernel)⟩
theorem lw_p66 : lw_okq (⟨"DecimalPatternsModel", "beginning", "(Z)I"⟩, 24) := ⟨⟨by decide +kernel, by decide +kernel⟩, List.mem_of_getElem? (i := 620) (by decide +kernel), List.mem_of_getElem? (i := 853) (by decide +kernel), List.mem_of_getElem? (i := 854) (by decide +kernel)⟩
theorem lw_p67 : lw_okq (⟨"DecimalPatternsModel", "loose", "(II)Z"⟩, 24) := ⟨⟨by decide +kernel, by decide +kernel⟩, List.mem_of_getElem? (i := 620) (by decide +kernel), List.mem_of_getElem? (i := 857) (by decide +kernel), List.mem_of_getElem? (i := 858) (by decide +kernel)⟩
theorem lw_p68 : lw_okq (⟨"DecimalPatternsModel", "push", "(II)Z"⟩, 24) := ⟨⟨by decide +kernel, by decide +kernel⟩, List.mem_of_getElem? (i := 620) (by decide +kernel), List.mem_of_getElem? (i := 861) (by decide +kernel), List.mem_of_getElem? (i := 862) (by decide +kernel)⟩
theorem lw_p69 : lw_okq (⟨"DecimalPatternsModel", "settle", "()Z"⟩, 24) := ⟨⟨by decide +kernel, by decide +kernel⟩, List.mem_of_getElem? (i := 620) (by decide +kernel), List.mem_of_getElem? (i := 866) (by decide +kernel), List.mem_of_getElem? (i := 867) (by decide +kernel)⟩
theorem lw_p70 : lw_okq (⟨"DecimalPatternsModel", "isText", "(Z)Z"⟩, 24) := ⟨⟨by decide +kernel, by decide +kernel⟩, List.mem_of_getElem? (i := 620) (by decide +kernel), List.mem_of_getElem? (i := 870) (by decide +kernel), List.mem_of_getElem? (i := 871) (by decide +kernel)⟩
def lw_privs_5 : List (MethodName × Nat) := [(⟨"DecimalPatternsModel", "putExponent", "(I)V"⟩, 24), (⟨"DecimalPatternsModel", "readAs", "(Z)Z"⟩, 24), (⟨"DecimalPatternsModel", "beginning", "(Z)I"⟩, 24), (⟨"DecimalPatternsModel", "loose", "(II)Z"⟩, 24), (⟨"DecimalPatternsModel", "push", "(II)Z"⟩, 24), (⟨"DecimalPatternsModel", "settle", "()Z"⟩, 24), (⟨"DecimalPatternsModel", "isText", "(Z)Z"⟩, 24)]
theorem lw_r5 : ∀ q ∈ lw_privs_5, lw_okq q := List.forall_mem_cons.mpr ⟨lw_p64, List.forall_mem_cons.mpr ⟨lw_p65, List.forall_mem_cons.mpr ⟨lw_p66, List.forall_mem_cons.mpr ⟨lw_p67, List.forall_mem_cons.mpr ⟨lw_p68, List.forall_mem_cons.mpr ⟨lw_p69, List.forall_mem_cons.mpr ⟨lw_p70, fun _ h => absurd h List.not_mem_nil⟩⟩⟩⟩⟩⟩⟩
def lw_privs : List (MethodName × Nat) := lw_privs_1 ++ (lw_privs_2 ++ (lw_privs_3 ++ (lw_privs_4 ++ (lw_privs_5))))
def lw_tbl : List Cond := k2_sels lw_privs ++ tables_1
theorem lw_privs_ok : ∀ q ∈ lw_privs, lw_okq q := by
  show ∀ q ∈ lw_privs_1 ++ (lw_privs_2 ++ (lw_privs_3 ++ (lw_privs_4 ++ (lw_privs_5)))), lw_okq q
  exact List.forall_mem_append.mpr ⟨lw_r1, List.forall_mem_append.mpr ⟨lw_r2, List.forall_mem_append.mpr ⟨lw_r3, List.forall_mem_append.mpr ⟨lw_r4, lw_r5⟩⟩⟩⟩
end
section
/-! My own rows over the kit's: a contract's form (a world of cells, fixed addresses, no new cell), its entry, its ends, its calls. -/
section CTB
/-- the one call between nest mates that the methods have (a word that a call doesn't hand on by itself) -/
abbrev nw_1 : Cond := Cond.methodLinkNest "DecimalPatterns$Symbols" 29 ⟨"DecimalPatterns", "isPlain", "(I)Z"⟩ "DecimalPatterns"
def bI : Bool → Int32
  | true => 1
  | false => 0
theorem bI_nar (b : Bool) : narrow .boolean (.int (bI b)) = .int (bI b) := by cases b <;> rfl
theorem bI_fit (b : Bool) : fits .boolean (.int (bI b)) = true := by cases b <;> rfl
theorem bI_0 (b : Bool) : bI b = 0 ↔ b = false := by cases b <;> decide
theorem bI_n0 (b : Bool) : ¬ bI b = 0 ↔ b = true := by cases b <;> decide
theorem ct_fm {ws w : va_W} {is : List Nat} (h : is.map (fun i => ws[i]?) = w.map some) : is.filterMap (fun i => ws[i]?) = w := by
  have h1 : is.filterMap (fun i => ws[i]?) = (is.map (fun i => ws[i]?)).filterMap id := by rw [List.filterMap_map]; rfl
  rw [h1, h, List.filterMap_map]
  show w.filterMap (fun x => some x) = w
  exact List.filterMap_some
abbrev ct_pre (D : va_G) (cl : List vw_C) (tys : List (ClassId × FieldType)) (wc : va_W) (sz : Nat) : State → Prop := fun U => U.heap.size = sz ∧ va_P D cl wc U.heap ∧ va_K D cl tys U ∧ va_D (fun _ => True) wc ∧ va_Nw nw_1 U
abbrev ct_at (D : va_G) (cl : List vw_C) (tys : List (ClassId × FieldType)) (A : Nat → Prop) (w : va_W) : State → Prop := fun t => va_P D cl w t.heap ∧ va_K D cl tys t ∧ va_D A w
def ct_M (cl : List vw_C) (l : Launch) (D : va_G) (tys : List (ClassId × FieldType)) (y : MethodName) (ws : List Cond) (rm : Room) (av : List Value) (wc : va_W) (Qc : (Nat → Prop) → Array Value → State → Outcome → State → Prop) : Prop :=
  ∀ sz : Nat, Met l y ws rm (va_Pc av (ct_pre D cl tys wc sz)) (Qc (va_A wc sz)) 0 0 (va_A wc sz)
abbrev ct_qi (cl : List vw_C) (D : va_G) (tys : List (ClassId × FieldType)) {S : Type} (post : Int32 → S → Prop) (w1 : S → va_W) : (Nat → Prop) → Array Value → State → Outcome → State → Prop := fun A => va_Qi post (fun u t => ct_at D cl tys A (w1 u) t) A
abbrev ct_qz (cl : List vw_C) (D : va_G) (tys : List (ClassId × FieldType)) {S : Type} (post : Bool → S → Prop) (w1 : S → va_W) : (Nat → Prop) → Array Value → State → Outcome → State → Prop := fun A => va_Qi (fun r (u : Bool × S) => r = bI u.1 ∧ post u.1 u.2) (fun u t => ct_at D cl tys A (w1 u.2) t) A
abbrev ct_ql (cl : List vw_C) (D : va_G) (tys : List (ClassId × FieldType)) {S : Type} (post : Int64 → S → Prop) (w1 : S → va_W) : (Nat → Prop) → Array Value → State → Outcome → State → Prop := fun A => va_Ql post (fun u t => ct_at D cl tys A (w1 u) t) A
abbrev ct_qv (cl : List vw_C) (D : va_G) (tys : List (ClassId × FieldType)) {S : Type} (post : S → Prop) (w1 : S → va_W) : (Nat → Prop) → Array Value → State → Outcome → State → Prop := fun A => va_Qv post (fun u t => ct_at D cl tys A (w1 u) t) A
abbrev ct_qr (cl : List vw_C) (D : va_G) (tys : List (ClassId × FieldType)) {S : Type} (post : Nat → S → Prop) (w1 : S → va_W) : (Nat → Prop) → Array Value → State → Outcome → State → Prop := fun A => va_Qr (fun u : Nat × S => post u.1 u.2) (fun u a t => a = u.1 ∧ ct_at D cl tys A (w1 u.2) t) A
theorem ct_enter {cl : List vw_C} {l : Launch} {D : va_G} {tys : List (ClassId × FieldType)} {y : MethodName} {ws ws' : List Cond} {rm : Room} {av : List Value} {wc : va_W} {Qc : (Nat → Prop) → Array Value → State → Outcome → State → Prop} {cc : ByteArray} {maxL : Nat} {ret : Option FieldType}
    (hy : plainName y.cls = true) (hw : ws = Cond.code y cc maxL ret :: ws') (hlen : (lg_sl av).length ≤ maxL)
    (body : ∀ (p : Program) (e : Env) (s : State) (m : MethodId) (args : Array Value) (below : List Frame) (meth : Method) (c : Code) (A : Nat → Prop) (ls : Array Slot), p.tables.exec = Jvm.exec → c.code = cc → meth.sig.returnType = ret → meth.locks = false → c.maxLocals = maxL → (∀ w ∈ ws, w.before args s = true) → s.vm.findClass y.cls = some m.cls →
      (∀ q : Nat, s.heap.size ≤ q → A q) → va_S A s.heap s.heap [] → va_P D cl wc s.heap → va_K D cl tys s → va_Nw nw_1 s → va_D A wc → lv_has ls maxL (lv_args 0 av) →
      W p l e rm s m args below meth c s.heap [] 0 0 (MQ below (Qc A) args s 0 0 A) (F0 m 0 ls [])) : ct_M cl l D tys y ws rm av wc Qc := by
  intro sz
  refine Met.ofW (cc := cc) (maxL := maxL) (ret := ret) hy hw ?_
  intro p e s m args below meth c s₁ B hml hv
  obtain ⟨rfl, hsz, hP, hK, hD0, hN⟩ := hv
  subst hsz
  have hD := hD0.self (sz := s.heap.size)
  have hts := atoms_spec (ws := ws) B.pre
  rw [lg_entry_eq]
  exact body p e s m av.toArray below meth c (va_A wc s.heap.size) _ B.exec B.bytes B.returns B.notSynchronized hml hts (findClass_of_methodNamed B.named) (fun q h => Or.inr h) va_S.rf hP hK hN hD (lv_entry av hlen)
section CTW
variable {p : Program} {l : Launch} {e : Env} {R : Room} {s : State} {m : MethodId} {args : Array Value} {below : List Frame} {meth : Method} {c : Code} {H : Heap} {locs : List Loc} {Q : State → Prop}
variable {cc : ByteArray} {pc : Nat} {ls : Array Slot} {rest st0 : List Value} {D : va_G} {cl : List vw_C} {A : Nat → Prop} {tys : List (ClassId × FieldType)} {H0 : Heap} {a : Array Value}
theorem ct_iret {S : Type} {post : Int32 → S → Prop} {w1 : S → va_W} {v : Int32} (hx : p.tables.exec = Jvm.exec) (hb : c.code = cc) (hr : meth.sig.returnType = some .int) (hlk : meth.locks = false) (hK : va_K D cl tys s) (hS : va_S A s.heap H locs) (u : S) (hq : post v u) (hP : va_P D cl (w1 u) H) (hD : va_D A (w1 u)) (hdg : decode cc pc = .ok (.ireturn, 1)) :
    W p l e R s m args below meth c H locs 0 0 (MQ below (ct_qi cl D tys post w1 A) args s 0 0 A) (F0 m pc ls [.int v]) :=
  W.iret (v := v) hx hb hr (fun t ht hW => ⟨⟨v, u, rfl, hq, by rw [ht]; exact hP, va_K.moved hW.alike hK, hD⟩, hS.F ht⟩) hS.2.2 hdg hlk
theorem ct_zret {S : Type} {post : Bool → S → Prop} {w1 : S → va_W} (v : Bool) (hx : p.tables.exec = Jvm.exec) (hb : c.code = cc) (hr : meth.sig.returnType = some .boolean) (hlk : meth.locks = false) (hK : va_K D cl tys s) (hS : va_S A s.heap H locs) (u : S) (hq : post v u) (hP : va_P D cl (w1 u) H) (hD : va_D A (w1 u)) (hdg : decode cc pc = .ok (.ireturn, 1)) :
    W p l e R s m args below meth c H locs 0 0 (MQ below (ct_qz cl D tys post w1 A) args s 0 0 A) (F0 m pc ls [.int (bI v)]) :=
  W.zret (v := bI v) (ty := .boolean) hx hb hr (bI_nar v) (fun t ht hW => ⟨⟨bI v, (v, u), rfl, ⟨rfl, hq⟩, by rw [ht]; exact hP, va_K.moved hW.alike hK, hD⟩, hS.F ht⟩) hS.2.2 hdg hlk
theorem ct_lret {S : Type} {post : Int64 → S → Prop} {w1 : S → va_W} {v : Int64} (hx : p.tables.exec = Jvm.exec) (hb : c.code = cc) (hr : meth.sig.returnType = some .long) (hlk : meth.locks = false) (hK : va_K D cl tys s) (hS : va_S A s.heap H locs) (u : S) (hq : post v u) (hP : va_P D cl (w1 u) H) (hD : va_D A (w1 u)) (hdg : decode cc pc = .ok (.lreturn, 1)) :
    W p l e R s m args below meth c H locs 0 0 (MQ below (ct_ql cl D tys post w1 A) args s 0 0 A) (F0 m pc ls [.long v]) :=
  W.lret (v := v) hx hb hr (fun t ht hW => ⟨⟨v, u, rfl, hq, by rw [ht]; exact hP, va_K.moved hW.alike hK, hD⟩, hS.F ht⟩) hS.2.2 hdg hlk
theorem ct_vret {S : Type} {post : S → Prop} {w1 : S → va_W} (hx : p.tables.exec = Jvm.exec) (hb : c.code = cc) (hr : meth.sig.returnType = none) (hlk : meth.locks = false) (hK : va_K D cl tys s) (hS : va_S A s.heap H locs) (u : S) (hq : post u) (hP : va_P D cl (w1 u) H) (hD : va_D A (w1 u)) (hdg : decode cc pc = .ok (.return_, 1)) :
    W p l e R s m args below meth c H locs 0 0 (MQ below (ct_qv cl D tys post w1 A) args s 0 0 A) (F0 m pc ls []) :=
  W.vret hx hb hr (fun t ht hW => ⟨⟨u, rfl, hq, by rw [ht]; exact hP, va_K.moved hW.alike hK, hD⟩, hS.F ht⟩) hS.2.2 hdg hlk
theorem ct_aret {S : Type} {post : Nat → S → Prop} {w1 : S → va_W} {v : Nat} {rt : FieldType} (hx : p.tables.exec = Jvm.exec) (hb : c.code = cc) (hr : meth.sig.returnType = some rt) (hrt : (∃ n, rt = .object n) ∨ ∃ t, rt = .array t) (hlk : meth.locks = false) (hK : va_K D cl tys s) (hS : va_S A s.heap H locs) (u : S) (hq : post v u) (hP : va_P D cl (w1 u) H) (hD : va_D A (w1 u)) (hdg : decode cc pc = .ok (.areturn, 1)) :
    W p l e R s m args below meth c H locs 0 0 (MQ below (ct_qr cl D tys post w1 A) args s 0 0 A) (F0 m pc ls [.ref v]) :=
  W.aret (v := .ref v) hx hb hr hrt (Or.inr ⟨v, rfl⟩) (fun t ht hW => ⟨⟨(v, u), v, rfl, hq, rfl, by rw [ht]; exact hP, va_K.moved hW.alike hK, hD⟩, hS.F ht⟩) hS.2.2 hdg hlk
/-- the cells at the places -/
abbrev ct_pk (ws : va_W) (is : List Nat) : va_W := is.filterMap (fun i => ws[i]?)
theorem ct_join {ws wc wr w1 wn : va_W} {H1 : Heap} (hP : va_P D cl ws H) (hD : va_D A ws) (isC isR isN : List Nat) (hC : isC.map (fun i => ws[i]?) = wc.map some) (hR : isR.map (fun i => ws[i]?) = wr.map some) (hn : va_nd isR = true) (hdis : ∀ i ∈ isR, i ∉ isC)
    (hk : ∀ q : Nat, q < H.size → ¬ va_A wc H.size q → H1[q]? = H[q]?) (hF : ∀ q, va_A wc H.size q → A q) (hP1 : va_P D cl w1 H1) (hD1 : va_D (va_A wc H.size) w1) (hN : isN.map (fun i => (wr ++ w1)[i]?) = wn.map some) (hnN : va_nd isN = true) : va_P D cl wn H1 ∧ va_D A wn := by
  obtain ⟨hPj, hDj⟩ := va_join hP hD isC isR hC hR hn hdis hk hF hP1 hD1
  exact ⟨hPj.sub isN (ct_fm hN), hDj.sub isN hnN hN⟩
theorem ct_calli {S : Type} {post : Int32 → S → Prop} {w1 wn : S → va_W} {wc ws : va_W} (hr : va_Run p l e R s m args below meth c H locs 0 0 0 0 (F0 m pc ls st0) rest (ct_qi cl D tys post w1 (va_A wc H.size) a) (va_A wc H.size))
    (hP : va_P D cl ws H) (hD : va_D A ws) (hS : va_S A H0 H locs) (hA : ∀ q, H0.size ≤ q → A q) (isC isR isN : List Nat) (hC : isC.map (fun i => ws[i]?) = wc.map some) (hR : isR.map (fun i => ws[i]?) = (ct_pk ws isR).map some) (hn : va_nd isR = true) (hdis : ∀ i ∈ isR, i ∉ isC) (hN : ∀ u, isN.map (fun i => (ct_pk ws isR ++ w1 u)[i]?) = (wn u).map some) (hnN : va_nd isN = true)
    (kk : ∀ (r : Int32) (u : S) (H1 : Heap) (locs1 : List Loc), post r u → va_P D cl (wn u) H1 → va_D A (wn u) → va_S A H0 H1 locs1 → W p l e R s m args below meth c H1 locs1 0 0 Q (F0 m (pc + 3) ls (.int r :: rest))) : W p l e R s m args below meth c H locs 0 0 Q (F0 m pc ls st0) := by
  have hF := va_free hD hS hA isC hC
  refine va_calli hr hS (fun q _ h => hF q h) hF (fun r u t H1 locs1 ht hvm hp hB hz hk hS1 => ?_)
  obtain ⟨hP1, -, hD1⟩ := hB
  rw [ht] at hP1
  obtain ⟨hPj, hDj⟩ := ct_join hP hD isC isR isN hC hR hn hdis hk hF hP1 hD1 (hN u) hnN
  exact kk r u H1 locs1 hp hPj hDj hS1
theorem ct_callz {S : Type} {post : Bool → S → Prop} {w1 wn : S → va_W} {wc ws : va_W} (hr : va_Run p l e R s m args below meth c H locs 0 0 0 0 (F0 m pc ls st0) rest (ct_qz cl D tys post w1 (va_A wc H.size) a) (va_A wc H.size))
    (hP : va_P D cl ws H) (hD : va_D A ws) (hS : va_S A H0 H locs) (hA : ∀ q, H0.size ≤ q → A q) (isC isR isN : List Nat) (hC : isC.map (fun i => ws[i]?) = wc.map some) (hR : isR.map (fun i => ws[i]?) = (ct_pk ws isR).map some) (hn : va_nd isR = true) (hdis : ∀ i ∈ isR, i ∉ isC) (hN : ∀ u, isN.map (fun i => (ct_pk ws isR ++ w1 u)[i]?) = (wn u).map some) (hnN : va_nd isN = true)
    (kk : ∀ (r : Bool) (u : S) (H1 : Heap) (locs1 : List Loc), post r u → va_P D cl (wn u) H1 → va_D A (wn u) → va_S A H0 H1 locs1 → W p l e R s m args below meth c H1 locs1 0 0 Q (F0 m (pc + 3) ls (.int (bI r) :: rest))) : W p l e R s m args below meth c H locs 0 0 Q (F0 m pc ls st0) := by
  have hF := va_free hD hS hA isC hC
  refine va_calli hr hS (fun q _ h => hF q h) hF (fun r u t H1 locs1 ht hvm hp hB hz hk hS1 => ?_)
  obtain ⟨hP1, -, hD1⟩ := hB
  rw [ht] at hP1
  obtain ⟨hPj, hDj⟩ := ct_join hP hD isC isR isN hC hR hn hdis hk hF hP1 hD1 (hN u.2) hnN
  rw [hp.1]
  exact kk u.1 u.2 H1 locs1 hp.2 hPj hDj hS1
theorem ct_calll {S : Type} {post : Int64 → S → Prop} {w1 wn : S → va_W} {wc ws : va_W} (hr : va_Run p l e R s m args below meth c H locs 0 0 0 0 (F0 m pc ls st0) rest (ct_ql cl D tys post w1 (va_A wc H.size) a) (va_A wc H.size))
    (hP : va_P D cl ws H) (hD : va_D A ws) (hS : va_S A H0 H locs) (hA : ∀ q, H0.size ≤ q → A q) (isC isR isN : List Nat) (hC : isC.map (fun i => ws[i]?) = wc.map some) (hR : isR.map (fun i => ws[i]?) = (ct_pk ws isR).map some) (hn : va_nd isR = true) (hdis : ∀ i ∈ isR, i ∉ isC) (hN : ∀ u, isN.map (fun i => (ct_pk ws isR ++ w1 u)[i]?) = (wn u).map some) (hnN : va_nd isN = true)
    (kk : ∀ (r : Int64) (u : S) (H1 : Heap) (locs1 : List Loc), post r u → va_P D cl (wn u) H1 → va_D A (wn u) → va_S A H0 H1 locs1 → W p l e R s m args below meth c H1 locs1 0 0 Q (F0 m (pc + 3) ls (.long r :: rest))) : W p l e R s m args below meth c H locs 0 0 Q (F0 m pc ls st0) := by
  have hF := va_free hD hS hA isC hC
  refine va_calll hr hS (fun q _ h => hF q h) hF (fun r u t H1 locs1 ht hvm hp hB hz hk hS1 => ?_)
  obtain ⟨hP1, -, hD1⟩ := hB
  rw [ht] at hP1
  obtain ⟨hPj, hDj⟩ := ct_join hP hD isC isR isN hC hR hn hdis hk hF hP1 hD1 (hN u) hnN
  exact kk r u H1 locs1 hp hPj hDj hS1
theorem ct_callv {S : Type} {post : S → Prop} {w1 wn : S → va_W} {wc ws : va_W} (hr : va_Run p l e R s m args below meth c H locs 0 0 0 0 (F0 m pc ls st0) rest (ct_qv cl D tys post w1 (va_A wc H.size) a) (va_A wc H.size))
    (hP : va_P D cl ws H) (hD : va_D A ws) (hS : va_S A H0 H locs) (hA : ∀ q, H0.size ≤ q → A q) (isC isR isN : List Nat) (hC : isC.map (fun i => ws[i]?) = wc.map some) (hR : isR.map (fun i => ws[i]?) = (ct_pk ws isR).map some) (hn : va_nd isR = true) (hdis : ∀ i ∈ isR, i ∉ isC) (hN : ∀ u, isN.map (fun i => (ct_pk ws isR ++ w1 u)[i]?) = (wn u).map some) (hnN : va_nd isN = true)
    (kk : ∀ (u : S) (H1 : Heap) (locs1 : List Loc), post u → va_P D cl (wn u) H1 → va_D A (wn u) → va_S A H0 H1 locs1 → W p l e R s m args below meth c H1 locs1 0 0 Q (F0 m (pc + 3) ls rest)) : W p l e R s m args below meth c H locs 0 0 Q (F0 m pc ls st0) := by
  have hF := va_free hD hS hA isC hC
  refine va_callv hr hS (fun q _ h => hF q h) hF (fun u t H1 locs1 ht hvm hp hB hz hk hS1 => ?_)
  obtain ⟨hP1, -, hD1⟩ := hB
  rw [ht] at hP1
  obtain ⟨hPj, hDj⟩ := ct_join hP hD isC isR isN hC hR hn hdis hk hF hP1 hD1 (hN u) hnN
  exact kk u H1 locs1 hp hPj hDj hS1
theorem ct_callr {S : Type} {post : Nat → S → Prop} {w1 wn : S → va_W} {wc ws : va_W} (hr : va_Run p l e R s m args below meth c H locs 0 0 0 0 (F0 m pc ls st0) rest (ct_qr cl D tys post w1 (va_A wc H.size) a) (va_A wc H.size))
    (hP : va_P D cl ws H) (hD : va_D A ws) (hS : va_S A H0 H locs) (hA : ∀ q, H0.size ≤ q → A q) (isC isR isN : List Nat) (hC : isC.map (fun i => ws[i]?) = wc.map some) (hR : isR.map (fun i => ws[i]?) = (ct_pk ws isR).map some) (hn : va_nd isR = true) (hdis : ∀ i ∈ isR, i ∉ isC) (hN : ∀ u, isN.map (fun i => (ct_pk ws isR ++ w1 u)[i]?) = (wn u).map some) (hnN : va_nd isN = true)
    (kk : ∀ (r : Nat) (u : S) (H1 : Heap) (locs1 : List Loc), post r u → va_P D cl (wn u) H1 → va_D A (wn u) → va_S A H0 H1 locs1 → W p l e R s m args below meth c H1 locs1 0 0 Q (F0 m (pc + 3) ls (.ref r :: rest))) : W p l e R s m args below meth c H locs 0 0 Q (F0 m pc ls st0) := by
  have hF := va_free hD hS hA isC hC
  refine va_callr hr hS (fun q _ h => hF q h) hF (fun u ra t H1 locs1 ht hvm hp hB hz hk hS1 => ?_)
  obtain ⟨rfl, hP1, -, hD1⟩ := hB
  rw [ht] at hP1
  obtain ⟨hPj, hDj⟩ := ct_join hP hD isC isR isN hC hR hn hdis hk hF hP1 hD1 (hN u.2) hnN
  exact kk u.1 u.2 H1 locs1 hp hPj hDj hS1
theorem ct_blind (av : List Value) (wc : va_W) (sz : Nat) : FrameBlind (va_Pc av (ct_pre D cl tys wc sz)) := fun a U g mk h => by
  obtain ⟨q0, q1, qP, qK, qD, qN⟩ := h
  exact ⟨q0, q1, qP, va_K.moved (u := U) (U := U.calling g mk a) (Vm.Alike.refl U.vm) qK, qD, va_Nw.same rfl (u := U) (U := U.calling g mk a) rfl qN⟩
theorem ct_preS {ws wc : va_W} (hP : va_P D cl ws H) (hD : va_D A ws) (hK : va_K D cl tys s) (hN : va_Nw nw_1 s) (isC : List Nat) (hC : isC.map (fun i => ws[i]?) = wc.map some) (hnC : va_nd isC = true) (As : List Value) : PreS s H (va_Pc As (ct_pre D cl tys wc H.size)) As :=
  ⟨ct_blind _ _ _, fun U hU hW => ⟨rfl, by rw [hU], by rw [hU]; exact hP.sub isC (ct_fm hC), va_K.moved hW.alike hK, (hD.sub isC hnC hC).weaken (fun _ _ _ _ => trivial), va_Nw.warmM hW hN⟩⟩
theorem ct_preV {ws wc : va_W} (hP : va_P D cl ws H) (hD : va_D A ws) (hK : va_K D cl tys s) (hN : va_Nw nw_1 s) (isC : List Nat) (hC : isC.map (fun i => ws[i]?) = wc.map some) (hnC : va_nd isC = true) {b : Nat} {ci : Nat} {fs : List Value} {C : String} {T : u_T} {N : Nat} (q0 : Nat) (he : ws[q0]? = some (b, .inr (ci, fs))) (hc : cl[ci]? = some (C, T, N)) (As : List Value) : PreV s H C b (va_Pc (.ref b :: As) (ct_pre D cl tys wc H.size)) As :=
  ⟨ct_blind _ _ _, va_recv hK hP hc he, fun U hU hW => ⟨rfl, by rw [hU], by rw [hU]; exact hP.sub isC (ct_fm hC), va_K.moved hW.alike hK, (hD.sub isC hnC hC).weaken (fun _ _ _ _ => trivial), va_Nw.warmM hW hN⟩⟩
end CTW
end CTB
/-- the words of the tables that every call hands on -/
def tbl : List Cond := lw_tbl.filter (fun w => k2_isCode w || goodWord w)
theorem tbl_in {w : Cond} {i : Nat} (h : lw_tbl[i]? = some w) (g : (k2_isCode w || goodWord w) = true) : w ∈ tbl := List.mem_filter.mpr ⟨List.mem_of_getElem? h, g⟩
theorem tbl_good : ∀ w ∈ tbl, (w.onTables && w.keeps) = true ∨ ∃ ty, w = .arrayClass ty := by
  intro w hw
  have h := (List.mem_filter.mp hw).2
  rcases Bool.or_eq_true_iff.mp h with hc | hg
  · cases w <;> first | (simp [k2_isCode] at hc; done) | exact Or.inl rfl
  · exact good_of_word hg
theorem gi {c : Cond} (h : c ∈ tbl) : GoodIn tbl (c :: tbl) := fun w hw => by
  rcases List.mem_cons.mp hw with e | e
  · rw [e]; exact ⟨h, tbl_good _ h⟩
  · exact ⟨e, tbl_good _ e⟩
section CWs
variable {R : Room} {s : State} {args : Array Value} {own C : String} {index maxL : Nat} {y : MethodName} {bytes : ByteArray} {ret : Option FieldType} {rm : Room}
theorem ct_cwV (n : Nat) (htb : ∀ w ∈ tbl, w.before args s = true) (hc : Cond.code y bytes maxL ret ∈ tbl) (hrc : rm.cells = 0) (hrs : rm.slots = 0) (hini : Cond.initialized y.cls ∈ tbl) (hl : Cond.methodLink own index y ∈ tbl) (hin : Cond.instanceMethod y ∈ tbl) (hsel : Cond.selects C y y ∈ tbl)
    (hd : y.cls ≠ "java/lang/invoke/MethodHandle" ∧ y.cls ≠ "java/lang/invoke/VarHandle" ∧ (parseMethodDescriptor y.desc).map (fun d => d.parameters.length) = some n) (hR : rm.frames + 1 ≤ R.frames ∧ 8 + (maxL + 11) + rm.locals ≤ R.locals) : CallW R s args own C index y bytes maxL ret (Cond.code y bytes maxL ret :: tbl) rm 0 0 n :=
  ⟨callB_of n htb (gi hc) rfl hrc hrs (htb _ hini) (htb _ hl) hd hR, htb _ hin, htb _ hsel⟩
theorem ct_cwS (n : Nat) (htb : ∀ w ∈ tbl, w.before args s = true) (hc : Cond.code y bytes maxL ret ∈ tbl) (hrc : rm.cells = 0) (hrs : rm.slots = 0) (hini : Cond.initialized y.cls ∈ tbl) (hl : Cond.methodLink own index y ∈ tbl) (hst : Cond.static y ∈ tbl)
    (hd : y.cls ≠ "java/lang/invoke/MethodHandle" ∧ y.cls ≠ "java/lang/invoke/VarHandle" ∧ (parseMethodDescriptor y.desc).map (fun d => d.parameters.length) = some n) (hR : rm.frames + 1 ≤ R.frames ∧ 8 + (maxL + 11) + rm.locals ≤ R.locals) : CallB R s args own index y bytes maxL ret (Cond.code y bytes maxL ret :: tbl) rm 0 0 n ∧ (Cond.static y).before args s = true :=
  ⟨callB_of n htb (gi hc) rfl hrc hrs (htb _ hini) (htb _ hl) hd hR, htb _ hst⟩
theorem ct_cwSN {host : String} (n : Nat) (htb : ∀ w ∈ tbl, w.before args s = true) (hc : Cond.code y bytes maxL ret ∈ tbl) (hrc : rm.cells = 0) (hrs : rm.slots = 0) (hini : Cond.initialized y.cls ∈ tbl) (hl : va_Nw (.methodLinkNest own index y host) s) (hst : Cond.static y ∈ tbl)
    (hd : y.cls ≠ "java/lang/invoke/MethodHandle" ∧ y.cls ≠ "java/lang/invoke/VarHandle" ∧ (parseMethodDescriptor y.desc).map (fun d => d.parameters.length) = some n) (hR : rm.frames + 1 ≤ R.frames ∧ 8 + (maxL + 11) + rm.locals ≤ R.locals) : va_CN R s args own index y host bytes maxL ret (Cond.code y bytes maxL ret :: tbl) rm 0 0 n ∧ (Cond.static y).before args s = true ∧ True :=
  ⟨va_cnB n htb (gi hc) rfl hrc hrs hl (htb _ hini) hd hR, htb _ hst, trivial⟩
end CWs
end
section
/-! names, field tables, codes: by program out of the Statement's words and javap's listing -/
def R_Am : String := "DecimalPatterns$Amount"
def F_Am : u_T := fun k => match k with
  | _ => ("DecimalPatterns$Amount", "digits", "[I", true)
def t_Am : Nat → FieldType := fun k => match k with
  | _ => .array .int
theorem n_Am : ∀ a, a < 1 → ∀ b, b < 1 → a ≠ b → (F_Am a).2.1 ≠ (F_Am b).2.1 := by decide +kernel
theorem t_Am_ok : ∀ k, k < 1 → parseFieldDescriptor (F_Am k).2.2.1 = some (t_Am k) := by decide +kernel
theorem in_Am : ∀ w ∈ u_ws R_Am F_Am 1, w ∈ tbl := by decide +kernel
def R_Fi : String := "DecimalPatterns$Finder"
def F_Fi : u_T := fun k => match k with
  | 0 => ("DecimalPatterns$Finder", "symbols", "LDecimalPatterns$Symbols;", true)
  | 1 => ("DecimalPatterns$Finder", "scribe", "LDecimalPatterns$Scribe;", true)
  | 2 => ("DecimalPatterns$Finder", "whole", "J", false)
  | 3 => ("DecimalPatterns$Finder", "places", "I", false)
  | 4 => ("DecimalPatterns$Finder", "part", "I", false)
  | 5 => ("DecimalPatterns$Finder", "zerosBehind", "I", false)
  | 6 => ("DecimalPatterns$Finder", "exponent", "I", false)
  | _ => ("DecimalPatterns$Finder", "exponentNegative", "Z", false)
def t_Fi : Nat → FieldType := fun k => match k with
  | 0 => .object "DecimalPatterns$Symbols"
  | 1 => .object "DecimalPatterns$Scribe"
  | 2 => .long
  | 3 => .int
  | 4 => .int
  | 5 => .int
  | 6 => .int
  | _ => .boolean
theorem n_Fi : ∀ a, a < 8 → ∀ b, b < 8 → a ≠ b → (F_Fi a).2.1 ≠ (F_Fi b).2.1 := by decide +kernel
theorem t_Fi_ok : ∀ k, k < 8 → parseFieldDescriptor (F_Fi k).2.2.1 = some (t_Fi k) := by decide +kernel
theorem in_Fi : ∀ w ∈ u_ws R_Fi F_Fi 8, w ∈ tbl := by decide +kernel
def R_Pt : String := "DecimalPatterns$Pattern"
def F_Pt : u_T := fun k => match k with
  | 0 => ("DecimalPatterns$Pattern", "plus", "LDecimalPatterns$Sub;", true)
  | 1 => ("DecimalPatterns$Pattern", "minus", "LDecimalPatterns$Sub;", true)
  | _ => ("DecimalPatterns$Pattern", "hasMinusSub", "Z", false)
def t_Pt : Nat → FieldType := fun k => match k with
  | 0 => .object "DecimalPatterns$Sub"
  | 1 => .object "DecimalPatterns$Sub"
  | _ => .boolean
theorem n_Pt : ∀ a, a < 3 → ∀ b, b < 3 → a ≠ b → (F_Pt a).2.1 ≠ (F_Pt b).2.1 := by decide +kernel
theorem t_Pt_ok : ∀ k, k < 3 → parseFieldDescriptor (F_Pt k).2.2.1 = some (t_Pt k) := by decide +kernel
theorem in_Pt : ∀ w ∈ u_ws R_Pt F_Pt 3, w ∈ tbl := by decide +kernel
def R_Mk : String := "DecimalPatterns$PatternMaker"
def F_Mk : u_T := fun k => match k with
  | 0 => ("DecimalPatterns$PatternMaker", "goal", "LDecimalPatterns$Pattern;", false)
  | 1 => ("DecimalPatterns$PatternMaker", "sub", "LDecimalPatterns$Sub;", false)
  | 2 => ("DecimalPatterns$PatternMaker", "stage", "I", false)
  | 3 => ("DecimalPatterns$PatternMaker", "quoted", "Z", false)
  | _ => ("DecimalPatterns$PatternMaker", "quoteEmpty", "Z", false)
def t_Mk : Nat → FieldType := fun k => match k with
  | 0 => .object "DecimalPatterns$Pattern"
  | 1 => .object "DecimalPatterns$Sub"
  | 2 => .int
  | 3 => .boolean
  | _ => .boolean
theorem n_Mk : ∀ a, a < 5 → ∀ b, b < 5 → a ≠ b → (F_Mk a).2.1 ≠ (F_Mk b).2.1 := by decide +kernel
theorem t_Mk_ok : ∀ k, k < 5 → parseFieldDescriptor (F_Mk k).2.2.1 = some (t_Mk k) := by decide +kernel
theorem in_Mk : ∀ w ∈ u_ws R_Mk F_Mk 5, w ∈ tbl := by decide +kernel
def R_Rw : String := "DecimalPatterns$Row"
def F_Rw : u_T := fun k => match k with
  | 0 => ("DecimalPatterns$Row", "cells", "[I", true)
  | _ => ("DecimalPatterns$Row", "count", "I", false)
def t_Rw : Nat → FieldType := fun k => match k with
  | 0 => .array .int
  | _ => .int
theorem n_Rw : ∀ a, a < 2 → ∀ b, b < 2 → a ≠ b → (F_Rw a).2.1 ≠ (F_Rw b).2.1 := by decide +kernel
theorem t_Rw_ok : ∀ k, k < 2 → parseFieldDescriptor (F_Rw k).2.2.1 = some (t_Rw k) := by decide +kernel
theorem in_Rw : ∀ w ∈ u_ws R_Rw F_Rw 2, w ∈ tbl := by decide +kernel
def R_Sc : String := "DecimalPatterns$Scribe"
def F_Sc : u_T := fun k => match k with
  | 0 => ("DecimalPatterns$Scribe", "page", "LDecimalPatterns$Row;", true)
  | 1 => ("DecimalPatterns$Scribe", "amount", "LDecimalPatterns$Amount;", true)
  | _ => ("DecimalPatterns$Scribe", "symbols", "LDecimalPatterns$Symbols;", true)
def t_Sc : Nat → FieldType := fun k => match k with
  | 0 => .object "DecimalPatterns$Row"
  | 1 => .object "DecimalPatterns$Amount"
  | _ => .object "DecimalPatterns$Symbols"
theorem n_Sc : ∀ a, a < 3 → ∀ b, b < 3 → a ≠ b → (F_Sc a).2.1 ≠ (F_Sc b).2.1 := by decide +kernel
theorem t_Sc_ok : ∀ k, k < 3 → parseFieldDescriptor (F_Sc k).2.2.1 = some (t_Sc k) := by decide +kernel
theorem in_Sc : ∀ w ∈ u_ws R_Sc F_Sc 3, w ∈ tbl := by decide +kernel
def R_Sb : String := "DecimalPatterns$Sub"
def F_Sb : u_T := fun k => match k with
  | 0 => ("DecimalPatterns$Sub", "prefix", "LDecimalPatterns$Row;", true)
  | 1 => ("DecimalPatterns$Sub", "suffix", "LDecimalPatterns$Row;", true)
  | 2 => ("DecimalPatterns$Sub", "percentMeant", "Z", false)
  | 3 => ("DecimalPatterns$Sub", "hashes", "I", false)
  | 4 => ("DecimalPatterns$Sub", "zeros", "I", false)
  | 5 => ("DecimalPatterns$Sub", "commas", "I", false)
  | 6 => ("DecimalPatterns$Sub", "behindComma", "I", false)
  | 7 => ("DecimalPatterns$Sub", "betweenCommas", "I", false)
  | 8 => ("DecimalPatterns$Sub", "fractionPlaces", "I", false)
  | 9 => ("DecimalPatterns$Sub", "fractionZeros", "I", false)
  | 10 => ("DecimalPatterns$Sub", "exponentZeros", "I", false)
  | _ => ("DecimalPatterns$Sub", "exponentPlus", "Z", false)
def t_Sb : Nat → FieldType := fun k => match k with
  | 0 => .object "DecimalPatterns$Row"
  | 1 => .object "DecimalPatterns$Row"
  | 2 => .boolean
  | 3 => .int
  | 4 => .int
  | 5 => .int
  | 6 => .int
  | 7 => .int
  | 8 => .int
  | 9 => .int
  | 10 => .int
  | _ => .boolean
theorem n_Sb : ∀ a, a < 12 → ∀ b, b < 12 → a ≠ b → (F_Sb a).2.1 ≠ (F_Sb b).2.1 := by decide +kernel
theorem t_Sb_ok : ∀ k, k < 12 → parseFieldDescriptor (F_Sb k).2.2.1 = some (t_Sb k) := by decide +kernel
theorem in_Sb : ∀ w ∈ u_ws R_Sb F_Sb 12, w ∈ tbl := by decide +kernel
def R_Sy : String := "DecimalPatterns$Symbols"
def F_Sy : u_T := fun k => match k with
  | 0 => ("DecimalPatterns$Symbols", "codes", "[I", true)
  | _ => ("DecimalPatterns$Symbols", "groupLead", "I", false)
def t_Sy : Nat → FieldType := fun k => match k with
  | 0 => .array .int
  | _ => .int
theorem n_Sy : ∀ a, a < 2 → ∀ b, b < 2 → a ≠ b → (F_Sy a).2.1 ≠ (F_Sy b).2.1 := by decide +kernel
theorem t_Sy_ok : ∀ k, k < 2 → parseFieldDescriptor (F_Sy k).2.2.1 = some (t_Sy k) := by decide +kernel
theorem in_Sy : ∀ w ∈ u_ws R_Sy F_Sy 2, w ∈ tbl := by decide +kernel
def R_Ob : String := "DecimalPatterns"
def F_Ob : u_T := fun k => match k with
  | 0 => ("DecimalPatterns", "drafted", "LDecimalPatterns$Row;", true)
  | 1 => ("DecimalPatterns", "text", "LDecimalPatterns$Row;", true)
  | 2 => ("DecimalPatterns", "symbols", "LDecimalPatterns$Symbols;", true)
  | 3 => ("DecimalPatterns", "maker", "LDecimalPatterns$PatternMaker;", true)
  | 4 => ("DecimalPatterns", "scribe", "LDecimalPatterns$Scribe;", true)
  | 5 => ("DecimalPatterns", "finder", "LDecimalPatterns$Finder;", true)
  | 6 => ("DecimalPatterns", "pattern", "LDecimalPatterns$Pattern;", false)
  | 7 => ("DecimalPatterns", "spare", "LDecimalPatterns$Pattern;", false)
  | 8 => ("DecimalPatterns", "foundSize", "J", false)
  | _ => ("DecimalPatterns", "foundScale", "I", false)
def t_Ob : Nat → FieldType := fun k => match k with
  | 0 => .object "DecimalPatterns$Row"
  | 1 => .object "DecimalPatterns$Row"
  | 2 => .object "DecimalPatterns$Symbols"
  | 3 => .object "DecimalPatterns$PatternMaker"
  | 4 => .object "DecimalPatterns$Scribe"
  | 5 => .object "DecimalPatterns$Finder"
  | 6 => .object "DecimalPatterns$Pattern"
  | 7 => .object "DecimalPatterns$Pattern"
  | 8 => .long
  | _ => .int
theorem n_Ob : ∀ a, a < 10 → ∀ b, b < 10 → a ≠ b → (F_Ob a).2.1 ≠ (F_Ob b).2.1 := by decide +kernel
theorem t_Ob_ok : ∀ k, k < 10 → parseFieldDescriptor (F_Ob k).2.2.1 = some (t_Ob k) := by decide +kernel
theorem in_Ob : ∀ w ∈ u_ws R_Ob F_Ob 10, w ∈ tbl := by decide +kernel
def R_Mo : String := "DecimalPatternsModel"
def F_Mo : u_T := fun k => match k with
  | 0 => ("DecimalPatternsModel", "draft", "[I", true)
  | 1 => ("DecimalPatternsModel", "draftSize", "I", false)
  | 2 => ("DecimalPatternsModel", "state", "I", false)
  | 3 => ("DecimalPatternsModel", "sub", "I", false)
  | 4 => ("DecimalPatternsModel", "quoted", "I", false)
  | 5 => ("DecimalPatternsModel", "now", "[I", true)
  | 6 => ("DecimalPatternsModel", "first", "[I", true)
  | 7 => ("DecimalPatternsModel", "has", "[I", true)
  | 8 => ("DecimalPatternsModel", "draftAffix", "[I", true)
  | 9 => ("DecimalPatternsModel", "draftLength", "[I", true)
  | 10 => ("DecimalPatternsModel", "affix", "[I", true)
  | 11 => ("DecimalPatternsModel", "affixLength", "[I", true)
  | 12 => ("DecimalPatternsModel", "two", "Z", false)
  | 13 => ("DecimalPatternsModel", "symbol", "[I", true)
  | 14 => ("DecimalPatternsModel", "least", "I", false)
  | 15 => ("DecimalPatternsModel", "digit", "[I", true)
  | 16 => ("DecimalPatternsModel", "out", "[I", true)
  | 17 => ("DecimalPatternsModel", "outSize", "I", false)
  | 18 => ("DecimalPatternsModel", "text", "[I", true)
  | 19 => ("DecimalPatternsModel", "textSize", "I", false)
  | 20 => ("DecimalPatternsModel", "foundSize", "J", false)
  | 21 => ("DecimalPatternsModel", "foundScale", "I", false)
  | 22 => ("DecimalPatternsModel", "guess", "J", false)
  | _ => ("DecimalPatternsModel", "guessScale", "I", false)
def t_Mo : Nat → FieldType := fun k => match k with
  | 0 => .array .int
  | 1 => .int
  | 2 => .int
  | 3 => .int
  | 4 => .int
  | 5 => .array .int
  | 6 => .array .int
  | 7 => .array .int
  | 8 => .array .int
  | 9 => .array .int
  | 10 => .array .int
  | 11 => .array .int
  | 12 => .boolean
  | 13 => .array .int
  | 14 => .int
  | 15 => .array .int
  | 16 => .array .int
  | 17 => .int
  | 18 => .array .int
  | 19 => .int
  | 20 => .long
  | 21 => .int
  | 22 => .long
  | _ => .int
theorem n_Mo : ∀ a, a < 24 → ∀ b, b < 24 → a ≠ b → (F_Mo a).2.1 ≠ (F_Mo b).2.1 := by decide +kernel
theorem t_Mo_ok : ∀ k, k < 24 → parseFieldDescriptor (F_Mo k).2.2.1 = some (t_Mo k) := by decide +kernel
theorem in_Mo : ∀ w ∈ u_ws R_Mo F_Mo 24, w ∈ tbl := by decide +kernel
abbrev vwCl : List vw_C := [(R_Am, F_Am, 1), (R_Fi, F_Fi, 8), (R_Pt, F_Pt, 3), (R_Mk, F_Mk, 5), (R_Rw, F_Rw, 2), (R_Sc, F_Sc, 3), (R_Sb, F_Sb, 12), (R_Sy, F_Sy, 2), (R_Ob, F_Ob, 10), (R_Mo, F_Mo, 24)]
abbrev b_isPlain : ByteArray := prog_1_method_16_code
abbrev y_isPlain : MethodName := ⟨"DecimalPatterns", "isPlain", "(I)Z"⟩
abbrev w_isPlain : List Cond := .code y_isPlain b_isPlain 1 (some .boolean) :: tbl
abbrev b_Row_add : ByteArray := prog_6_method_2_code
abbrev y_Row_add : MethodName := ⟨"DecimalPatterns$Row", "add", "(I)Z"⟩
abbrev w_Row_add : List Cond := .code y_Row_add b_Row_add 2 (some .boolean) :: tbl
abbrev b_Row_clear : ByteArray := prog_6_method_3_code
abbrev y_Row_clear : MethodName := ⟨"DecimalPatterns$Row", "clear", "()V"⟩
abbrev w_Row_clear : List Cond := .code y_Row_clear b_Row_clear 1 none :: tbl
abbrev b_Row_has : ByteArray := prog_6_method_4_code
abbrev y_Row_has : MethodName := ⟨"DecimalPatterns$Row", "has", "(I)Z"⟩
abbrev w_Row_has : List Cond := .code y_Row_has b_Row_has 2 (some .boolean) :: tbl
abbrev b_Row_code : ByteArray := prog_6_method_5_code
abbrev y_Row_code : MethodName := ⟨"DecimalPatterns$Row", "code", "(I)I"⟩
abbrev w_Row_code : List Cond := .code y_Row_code b_Row_code 2 (some .int) :: tbl
abbrev b_Row_copyFrom : ByteArray := prog_6_method_6_code
abbrev y_Row_copyFrom : MethodName := ⟨"DecimalPatterns$Row", "copyFrom", "(LDecimalPatterns$Row;)V"⟩
abbrev w_Row_copyFrom : List Cond := .code y_Row_copyFrom b_Row_copyFrom 3 none :: tbl
abbrev b_Row_isSameAs : ByteArray := prog_6_method_7_code
abbrev y_Row_isSameAs : MethodName := ⟨"DecimalPatterns$Row", "isSameAs", "(LDecimalPatterns$Row;)Z"⟩
abbrev w_Row_isSameAs : List Cond := .code y_Row_isSameAs b_Row_isSameAs 3 (some .boolean) :: tbl
abbrev b_Sym_code : ByteArray := prog_9_method_2_code
abbrev y_Sym_code : MethodName := ⟨"DecimalPatterns$Symbols", "code", "(I)I"⟩
abbrev w_Sym_code : List Cond := .code y_Sym_code b_Sym_code 2 (some .int) :: tbl
abbrev b_Sym_digitCode : ByteArray := prog_9_method_3_code
abbrev y_Sym_digitCode : MethodName := ⟨"DecimalPatterns$Symbols", "digitCode", "(I)I"⟩
abbrev w_Sym_digitCode : List Cond := .code y_Sym_digitCode b_Sym_digitCode 2 (some .int) :: tbl
abbrev b_Sym_digitOf : ByteArray := prog_9_method_4_code
abbrev y_Sym_digitOf : MethodName := ⟨"DecimalPatterns$Symbols", "digitOf", "(I)I"⟩
abbrev w_Sym_digitOf : List Cond := .code y_Sym_digitOf b_Sym_digitOf 3 (some .int) :: tbl
abbrev b_Sym_standsBefore : ByteArray := prog_9_method_7_code
abbrev y_Sym_standsBefore : MethodName := ⟨"DecimalPatterns$Symbols", "standsBefore", "(II)Z"⟩
abbrev w_Sym_standsBefore : List Cond := .code y_Sym_standsBefore b_Sym_standsBefore 4 (some .boolean) :: tbl
abbrev b_Sym_areSound : ByteArray := prog_9_method_6_code
abbrev y_Sym_areSound : MethodName := ⟨"DecimalPatterns$Symbols", "areSound", "()Z"⟩
abbrev w_Sym_areSound : List Cond := .code y_Sym_areSound b_Sym_areSound 3 (some .boolean) :: tbl
abbrev b_Sym_change : ByteArray := prog_9_method_5_code
abbrev y_Sym_change : MethodName := ⟨"DecimalPatterns$Symbols", "change", "(II)Z"⟩
abbrev w_Sym_change : List Cond := .code y_Sym_change b_Sym_change 4 (some .boolean) :: tbl
abbrev b_Sub_clear : ByteArray := prog_8_method_2_code
abbrev y_Sub_clear : MethodName := ⟨"DecimalPatterns$Sub", "clear", "()V"⟩
abbrev w_Sub_clear : List Cond := .code y_Sub_clear b_Sub_clear 1 none :: tbl
abbrev b_Sub_hasExponent : ByteArray := prog_8_method_3_code
abbrev y_Sub_hasExponent : MethodName := ⟨"DecimalPatterns$Sub", "hasExponent", "()Z"⟩
abbrev w_Sub_hasExponent : List Cond := .code y_Sub_hasExponent b_Sub_hasExponent 1 (some .boolean) :: tbl
abbrev b_Sub_groupsBefore : ByteArray := prog_8_method_4_code
abbrev y_Sub_groupsBefore : MethodName := ⟨"DecimalPatterns$Sub", "groupsBefore", "(I)Z"⟩
abbrev w_Sub_groupsBefore : List Cond := .code y_Sub_groupsBefore b_Sub_groupsBefore 4 (some .boolean) :: tbl
abbrev b_Pat_clear : ByteArray := prog_4_method_2_code
abbrev y_Pat_clear : MethodName := ⟨"DecimalPatterns$Pattern", "clear", "()V"⟩
abbrev w_Pat_clear : List Cond := .code y_Pat_clear b_Pat_clear 1 none :: tbl
abbrev b_Pat_affixesFor : ByteArray := prog_4_method_3_code
abbrev y_Pat_affixesFor : MethodName := ⟨"DecimalPatterns$Pattern", "affixesFor", "(Z)LDecimalPatterns$Sub;"⟩
abbrev w_Pat_affixesFor : List Cond := .code y_Pat_affixesFor b_Pat_affixesFor 2 (some (.object "DecimalPatterns$Sub")) :: tbl
abbrev b_Pat_needsMinus : ByteArray := prog_4_method_4_code
abbrev y_Pat_needsMinus : MethodName := ⟨"DecimalPatterns$Pattern", "needsMinus", "(Z)Z"⟩
abbrev w_Pat_needsMinus : List Cond := .code y_Pat_needsMinus b_Pat_needsMinus 2 (some .boolean) :: tbl
abbrev b_Mk_beginSub : ByteArray := prog_5_method_3_code
abbrev y_Mk_beginSub : MethodName := ⟨"DecimalPatterns$PatternMaker", "beginSub", "(LDecimalPatterns$Sub;)V"⟩
abbrev w_Mk_beginSub : List Cond := .code y_Mk_beginSub b_Mk_beginSub 2 none :: tbl
abbrev b_Mk_numberEnded : ByteArray := prog_5_method_5_code
abbrev y_Mk_numberEnded : MethodName := ⟨"DecimalPatterns$PatternMaker", "numberEnded", "()Z"⟩
abbrev w_Mk_numberEnded : List Cond := .code y_Mk_numberEnded b_Mk_numberEnded 1 (some .boolean) :: tbl
abbrev b_Mk_inInteger : ByteArray := prog_5_method_8_code
abbrev y_Mk_inInteger : MethodName := ⟨"DecimalPatterns$PatternMaker", "inInteger", "()Z"⟩
abbrev w_Mk_inInteger : List Cond := .code y_Mk_inInteger b_Mk_inInteger 1 (some .boolean) :: tbl
abbrev b_Mk_takeHash : ByteArray := prog_5_method_6_code
abbrev y_Mk_takeHash : MethodName := ⟨"DecimalPatterns$PatternMaker", "takeHash", "()Z"⟩
abbrev w_Mk_takeHash : List Cond := .code y_Mk_takeHash b_Mk_takeHash 1 (some .boolean) :: tbl
abbrev b_Mk_takeFractionZero : ByteArray := prog_5_method_9_code
abbrev y_Mk_takeFractionZero : MethodName := ⟨"DecimalPatterns$PatternMaker", "takeFractionZero", "()Z"⟩
abbrev w_Mk_takeFractionZero : List Cond := .code y_Mk_takeFractionZero b_Mk_takeFractionZero 1 (some .boolean) :: tbl
abbrev b_Mk_takeZero : ByteArray := prog_5_method_7_code
abbrev y_Mk_takeZero : MethodName := ⟨"DecimalPatterns$PatternMaker", "takeZero", "()Z"⟩
abbrev w_Mk_takeZero : List Cond := .code y_Mk_takeZero b_Mk_takeZero 1 (some .boolean) :: tbl
abbrev b_Mk_takeComma : ByteArray := prog_5_method_10_code
abbrev y_Mk_takeComma : MethodName := ⟨"DecimalPatterns$PatternMaker", "takeComma", "()Z"⟩
abbrev w_Mk_takeComma : List Cond := .code y_Mk_takeComma b_Mk_takeComma 1 (some .boolean) :: tbl
abbrev b_Mk_takePoint : ByteArray := prog_5_method_11_code
abbrev y_Mk_takePoint : MethodName := ⟨"DecimalPatterns$PatternMaker", "takePoint", "()Z"⟩
abbrev w_Mk_takePoint : List Cond := .code y_Mk_takePoint b_Mk_takePoint 1 (some .boolean) :: tbl
abbrev b_Mk_takeE : ByteArray := prog_5_method_12_code
abbrev y_Mk_takeE : MethodName := ⟨"DecimalPatterns$PatternMaker", "takeE", "()Z"⟩
abbrev w_Mk_takeE : List Cond := .code y_Mk_takeE b_Mk_takeE 2 (some .boolean) :: tbl
abbrev b_Mk_takeSemicolon : ByteArray := prog_5_method_13_code
abbrev y_Mk_takeSemicolon : MethodName := ⟨"DecimalPatterns$PatternMaker", "takeSemicolon", "()Z"⟩
abbrev w_Mk_takeSemicolon : List Cond := .code y_Mk_takeSemicolon b_Mk_takeSemicolon 1 (some .boolean) :: tbl
abbrev b_Mk_enterAffix : ByteArray := prog_5_method_16_code
abbrev y_Mk_enterAffix : MethodName := ⟨"DecimalPatterns$PatternMaker", "enterAffix", "()Z"⟩
abbrev w_Mk_enterAffix : List Cond := .code y_Mk_enterAffix b_Mk_enterAffix 1 (some .boolean) :: tbl
abbrev b_Mk_openAffix : ByteArray := prog_5_method_17_code
abbrev y_Mk_openAffix : MethodName := ⟨"DecimalPatterns$PatternMaker", "openAffix", "()LDecimalPatterns$Row;"⟩
abbrev w_Mk_openAffix : List Cond := .code y_Mk_openAffix b_Mk_openAffix 1 (some (.object "DecimalPatterns$Row")) :: tbl
abbrev b_Mk_takeAffix : ByteArray := prog_5_method_15_code
abbrev y_Mk_takeAffix : MethodName := ⟨"DecimalPatterns$PatternMaker", "takeAffix", "(I)Z"⟩
abbrev w_Mk_takeAffix : List Cond := .code y_Mk_takeAffix b_Mk_takeAffix 2 (some .boolean) :: tbl
abbrev b_Mk_takePlus : ByteArray := prog_5_method_14_code
abbrev y_Mk_takePlus : MethodName := ⟨"DecimalPatterns$PatternMaker", "takePlus", "()Z"⟩
abbrev w_Mk_takePlus : List Cond := .code y_Mk_takePlus b_Mk_takePlus 1 (some .boolean) :: tbl
abbrev b_Mk_takeQuoted : ByteArray := prog_5_method_18_code
abbrev y_Mk_takeQuoted : MethodName := ⟨"DecimalPatterns$PatternMaker", "takeQuoted", "(I)V"⟩
abbrev w_Mk_takeQuoted : List Cond := .code y_Mk_takeQuoted b_Mk_takeQuoted 2 none :: tbl
abbrev b_Mk_take : ByteArray := prog_5_method_4_code
abbrev y_Mk_take : MethodName := ⟨"DecimalPatterns$PatternMaker", "take", "(I)Z"⟩
abbrev w_Mk_take : List Cond := .code y_Mk_take b_Mk_take 2 (some .boolean) :: tbl
abbrev b_Mk_make : ByteArray := prog_5_method_2_code
abbrev y_Mk_make : MethodName := ⟨"DecimalPatterns$PatternMaker", "make", "(LDecimalPatterns$Row;LDecimalPatterns$Pattern;)I"⟩
abbrev w_Mk_make : List Cond := .code y_Mk_make b_Mk_make 4 (some .int) :: tbl
abbrev b_Am_digit : ByteArray := prog_2_method_3_code
abbrev y_Am_digit : MethodName := ⟨"DecimalPatterns$Amount", "digit", "(I)I"⟩
abbrev w_Am_digit : List Cond := .code y_Am_digit b_Am_digit 2 (some .int) :: tbl
abbrev b_Am_put : ByteArray := prog_2_method_4_code
abbrev y_Am_put : MethodName := ⟨"DecimalPatterns$Amount", "put", "(II)V"⟩
abbrev w_Am_put : List Cond := .code y_Am_put b_Am_put 3 none :: tbl
abbrev b_Am_clearBelow : ByteArray := prog_2_method_12_code
abbrev y_Am_clearBelow : MethodName := ⟨"DecimalPatterns$Amount", "clearBelow", "(I)V"⟩
abbrev w_Am_clearBelow : List Cond := .code y_Am_clearBelow b_Am_clearBelow 3 none :: tbl
abbrev b_Am_anyBelow : ByteArray := prog_2_method_11_code
abbrev y_Am_anyBelow : MethodName := ⟨"DecimalPatterns$Amount", "anyBelow", "(I)Z"⟩
abbrev w_Am_anyBelow : List Cond := .code y_Am_anyBelow b_Am_anyBelow 3 (some .boolean) :: tbl
abbrev b_Am_fill : ByteArray := prog_2_method_2_code
abbrev y_Am_fill : MethodName := ⟨"DecimalPatterns$Amount", "fill", "(JIZ)V"⟩
abbrev w_Am_fill : List Cond := .code y_Am_fill b_Am_fill 9 none :: tbl
abbrev b_Am_isZero : ByteArray := prog_2_method_5_code
abbrev y_Am_isZero : MethodName := ⟨"DecimalPatterns$Amount", "isZero", "()Z"⟩
abbrev w_Am_isZero : List Cond := .code y_Am_isZero b_Am_isZero 1 (some .boolean) :: tbl
abbrev b_Am_firstPower : ByteArray := prog_2_method_6_code
abbrev y_Am_firstPower : MethodName := ⟨"DecimalPatterns$Amount", "firstPower", "()I"⟩
abbrev w_Am_firstPower : List Cond := .code y_Am_firstPower b_Am_firstPower 2 (some .int) :: tbl
abbrev b_Am_lastPower : ByteArray := prog_2_method_7_code
abbrev y_Am_lastPower : MethodName := ⟨"DecimalPatterns$Amount", "lastPower", "()I"⟩
abbrev w_Am_lastPower : List Cond := .code y_Am_lastPower b_Am_lastPower 2 (some .int) :: tbl
abbrev b_Am_againstHalf : ByteArray := prog_2_method_10_code
abbrev y_Am_againstHalf : MethodName := ⟨"DecimalPatterns$Amount", "againstHalf", "(I)I"⟩
abbrev w_Am_againstHalf : List Cond := .code y_Am_againstHalf b_Am_againstHalf 3 (some .int) :: tbl
abbrev b_Am_goesUp : ByteArray := prog_2_method_9_code
abbrev y_Am_goesUp : MethodName := ⟨"DecimalPatterns$Amount", "goesUp", "(IIZ)Z"⟩
abbrev w_Am_goesUp : List Cond := .code y_Am_goesUp b_Am_goesUp 4 (some .boolean) :: tbl
abbrev b_Am_addOneAt : ByteArray := prog_2_method_13_code
abbrev y_Am_addOneAt : MethodName := ⟨"DecimalPatterns$Amount", "addOneAt", "(I)V"⟩
abbrev w_Am_addOneAt : List Cond := .code y_Am_addOneAt b_Am_addOneAt 3 none :: tbl
abbrev b_Am_roundTo : ByteArray := prog_2_method_8_code
abbrev y_Am_roundTo : MethodName := ⟨"DecimalPatterns$Amount", "roundTo", "(IIZ)Z"⟩
abbrev w_Am_roundTo : List Cond := .code y_Am_roundTo b_Am_roundTo 5 (some .boolean) :: tbl
abbrev b_Sc_widthOf : ByteArray := prog_7_method_8_code
abbrev y_Sc_widthOf : MethodName := ⟨"DecimalPatterns$Scribe", "widthOf", "(I)I"⟩
abbrev w_Sc_widthOf : List Cond := .code y_Sc_widthOf b_Sc_widthOf 4 (some .int) :: tbl
abbrev b_Sc_digitAt : ByteArray := prog_7_method_9_code
abbrev y_Sc_digitAt : MethodName := ⟨"DecimalPatterns$Scribe", "digitAt", "(II)I"⟩
abbrev w_Sc_digitAt : List Cond := .code y_Sc_digitAt b_Sc_digitAt 4 (some .int) :: tbl
abbrev b_Sc_putSymbol : ByteArray := prog_7_method_11_code
abbrev y_Sc_putSymbol : MethodName := ⟨"DecimalPatterns$Scribe", "putSymbol", "(I)V"⟩
abbrev w_Sc_putSymbol : List Cond := .code y_Sc_putSymbol b_Sc_putSymbol 2 none :: tbl
abbrev b_Sc_putDigit : ByteArray := prog_7_method_12_code
abbrev y_Sc_putDigit : MethodName := ⟨"DecimalPatterns$Scribe", "putDigit", "(I)V"⟩
abbrev w_Sc_putDigit : List Cond := .code y_Sc_putDigit b_Sc_putDigit 2 none :: tbl
abbrev b_Sc_putAffix : ByteArray := prog_7_method_10_code
abbrev y_Sc_putAffix : MethodName := ⟨"DecimalPatterns$Scribe", "putAffix", "(LDecimalPatterns$Row;)V"⟩
abbrev w_Sc_putAffix : List Cond := .code y_Sc_putAffix b_Sc_putAffix 4 none :: tbl
abbrev b_Sc_roundingPower : ByteArray := prog_7_method_3_code
abbrev y_Sc_roundingPower : MethodName := ⟨"DecimalPatterns$Scribe", "roundingPower", "(LDecimalPatterns$Sub;)I"⟩
abbrev w_Sc_roundingPower : List Cond := .code y_Sc_roundingPower b_Sc_roundingPower 2 (some .int) :: tbl
abbrev b_floorDiv : ByteArray := prog_12_method_47_code
abbrev y_floorDiv : MethodName := ⟨"java/lang/Math", "floorDiv", "(II)I"⟩
abbrev w_floorDiv : List Cond := .code y_floorDiv b_floorDiv 3 (some .int) :: tbl
abbrev b_Sc_exponentFor : ByteArray := prog_7_method_4_code
abbrev y_Sc_exponentFor : MethodName := ⟨"DecimalPatterns$Scribe", "exponentFor", "(LDecimalPatterns$Sub;)I"⟩
abbrev w_Sc_exponentFor : List Cond := .code y_Sc_exponentFor b_Sc_exponentFor 3 (some .int) :: tbl
abbrev b_Sc_putWhole : ByteArray := prog_7_method_6_code
abbrev y_Sc_putWhole : MethodName := ⟨"DecimalPatterns$Scribe", "putWhole", "(LDecimalPatterns$Sub;II)V"⟩
abbrev w_Sc_putWhole : List Cond := .code y_Sc_putWhole b_Sc_putWhole 6 none :: tbl
abbrev b_Sc_putDigits : ByteArray := prog_7_method_5_code
abbrev y_Sc_putDigits : MethodName := ⟨"DecimalPatterns$Scribe", "putDigits", "(LDecimalPatterns$Sub;I)V"⟩
abbrev w_Sc_putDigits : List Cond := .code y_Sc_putDigits b_Sc_putDigits 6 none :: tbl
abbrev b_Sc_putExponent : ByteArray := prog_7_method_7_code
abbrev y_Sc_putExponent : MethodName := ⟨"DecimalPatterns$Scribe", "putExponent", "(LDecimalPatterns$Sub;I)V"⟩
abbrev w_Sc_putExponent : List Cond := .code y_Sc_putExponent b_Sc_putExponent 6 none :: tbl
abbrev b_Sc_compose : ByteArray := prog_7_method_2_code
abbrev y_Sc_compose : MethodName := ⟨"DecimalPatterns$Scribe", "compose", "(LDecimalPatterns$Pattern;ZJII)Z"⟩
abbrev w_Sc_compose : List Cond := .code y_Sc_compose b_Sc_compose 10 (some .boolean) :: tbl
abbrev b_Fi_begin : ByteArray := prog_3_method_4_code
abbrev y_Fi_begin : MethodName := ⟨"DecimalPatterns$Finder", "begin", "()V"⟩
abbrev w_Fi_begin : List Cond := .code y_Fi_begin b_Fi_begin 1 none :: tbl
abbrev b_Fi_enter : ByteArray := prog_3_method_6_code
abbrev y_Fi_enter : MethodName := ⟨"DecimalPatterns$Finder", "enter", "(I)Z"⟩
abbrev w_Fi_enter : List Cond := .code y_Fi_enter b_Fi_enter 2 (some .boolean) :: tbl
abbrev b_Fi_append : ByteArray := prog_3_method_9_code
abbrev y_Fi_append : MethodName := ⟨"DecimalPatterns$Finder", "append", "(I)Z"⟩
abbrev w_Fi_append : List Cond := .code y_Fi_append b_Fi_append 2 (some .boolean) :: tbl
abbrev b_Fi_takeZerosBehind : ByteArray := prog_3_method_8_code
abbrev y_Fi_takeZerosBehind : MethodName := ⟨"DecimalPatterns$Finder", "takeZerosBehind", "()Z"⟩
abbrev w_Fi_takeZerosBehind : List Cond := .code y_Fi_takeZerosBehind b_Fi_takeZerosBehind 3 (some .boolean) :: tbl
abbrev b_Fi_takeDigit : ByteArray := prog_3_method_7_code
abbrev y_Fi_takeDigit : MethodName := ⟨"DecimalPatterns$Finder", "takeDigit", "(I)Z"⟩
abbrev w_Fi_takeDigit : List Cond := .code y_Fi_takeDigit b_Fi_takeDigit 2 (some .boolean) :: tbl
abbrev b_Fi_take : ByteArray := prog_3_method_5_code
abbrev y_Fi_take : MethodName := ⟨"DecimalPatterns$Finder", "take", "(I)Z"⟩
abbrev w_Fi_take : List Cond := .code y_Fi_take b_Fi_take 3 (some .boolean) :: tbl
abbrev b_Fi_settle : ByteArray := prog_3_method_10_code
abbrev y_Fi_settle : MethodName := ⟨"DecimalPatterns$Finder", "settle", "(Z)Z"⟩
abbrev w_Fi_settle : List Cond := .code y_Fi_settle b_Fi_settle 4 (some .boolean) :: tbl
abbrev b_Fi_gather : ByteArray := prog_3_method_3_code
abbrev y_Fi_gather : MethodName := ⟨"DecimalPatterns$Finder", "gather", "(LDecimalPatterns$Pattern;LDecimalPatterns$Row;Z)Z"⟩
abbrev w_Fi_gather : List Cond := .code y_Fi_gather b_Fi_gather 8 (some .boolean) :: tbl
abbrev b_Fi_find : ByteArray := prog_3_method_2_code
abbrev y_Fi_find : MethodName := ⟨"DecimalPatterns$Finder", "find", "(LDecimalPatterns$Pattern;LDecimalPatterns$Row;Z)Z"⟩
abbrev w_Fi_find : List Cond := .code y_Fi_find b_Fi_find 4 (some .boolean) :: tbl
abbrev b_X_keepFound : ByteArray := prog_1_method_15_code
abbrev y_X_keepFound : MethodName := ⟨"DecimalPatterns", "keepFound", "(JI)V"⟩
abbrev w_X_keepFound : List Cond := .code y_X_keepFound b_X_keepFound 4 none :: tbl
abbrev b_X_draft : ByteArray := prog_1_method_2_code
abbrev y_X_draft : MethodName := ⟨"DecimalPatterns", "draft", "(C)Z"⟩
abbrev w_X_draft : List Cond := .code y_X_draft b_X_draft 2 (some .boolean) :: tbl
abbrev b_X_scrap : ByteArray := prog_1_method_3_code
abbrev y_X_scrap : MethodName := ⟨"DecimalPatterns", "scrap", "()V"⟩
abbrev w_X_scrap : List Cond := .code y_X_scrap b_X_scrap 1 none :: tbl
abbrev b_X_apply : ByteArray := prog_1_method_4_code
abbrev y_X_apply : MethodName := ⟨"DecimalPatterns", "apply", "()I"⟩
abbrev w_X_apply : List Cond := .code y_X_apply b_X_apply 3 (some .int) :: tbl
abbrev b_X_symbol : ByteArray := prog_1_method_5_code
abbrev y_X_symbol : MethodName := ⟨"DecimalPatterns", "symbol", "(IC)Z"⟩
abbrev w_X_symbol : List Cond := .code y_X_symbol b_X_symbol 3 (some .boolean) :: tbl
abbrev b_X_groupFrom : ByteArray := prog_1_method_6_code
abbrev y_X_groupFrom : MethodName := ⟨"DecimalPatterns", "groupFrom", "(I)Z"⟩
abbrev w_X_groupFrom : List Cond := .code y_X_groupFrom b_X_groupFrom 2 (some .boolean) :: tbl
abbrev b_X_write : ByteArray := prog_1_method_7_code
abbrev y_X_write : MethodName := ⟨"DecimalPatterns", "write", "(JII)I"⟩
abbrev w_X_write : List Cond := .code y_X_write b_X_write 5 (some .int) :: tbl
abbrev b_X_type : ByteArray := prog_1_method_8_code
abbrev y_X_type : MethodName := ⟨"DecimalPatterns", "type", "(C)Z"⟩
abbrev w_X_type : List Cond := .code y_X_type b_X_type 2 (some .boolean) :: tbl
abbrev b_X_wipe : ByteArray := prog_1_method_9_code
abbrev y_X_wipe : MethodName := ⟨"DecimalPatterns", "wipe", "()V"⟩
abbrev w_X_wipe : List Cond := .code y_X_wipe b_X_wipe 1 none :: tbl
abbrev b_X_length : ByteArray := prog_1_method_10_code
abbrev y_X_length : MethodName := ⟨"DecimalPatterns", "length", "()I"⟩
abbrev w_X_length : List Cond := .code y_X_length b_X_length 1 (some .int) :: tbl
abbrev b_X_at : ByteArray := prog_1_method_11_code
abbrev y_X_at : MethodName := ⟨"DecimalPatterns", "at", "(I)I"⟩
abbrev w_X_at : List Cond := .code y_X_at b_X_at 2 (some .int) :: tbl
abbrev b_X_read : ByteArray := prog_1_method_12_code
abbrev y_X_read : MethodName := ⟨"DecimalPatterns", "read", "()I"⟩
abbrev w_X_read : List Cond := .code y_X_read b_X_read 1 (some .int) :: tbl
abbrev b_X_size : ByteArray := prog_1_method_13_code
abbrev y_X_size : MethodName := ⟨"DecimalPatterns", "size", "()J"⟩
abbrev w_X_size : List Cond := .code y_X_size b_X_size 1 (some .long) :: tbl
abbrev b_X_scale : ByteArray := prog_1_method_14_code
abbrev y_X_scale : MethodName := ⟨"DecimalPatterns", "scale", "()I"⟩
abbrev w_X_scale : List Cond := .code y_X_scale b_X_scale 1 (some .int) :: tbl
abbrev b_M_draft : ByteArray := prog_11_method_2_code
abbrev y_M_draft : MethodName := ⟨"DecimalPatternsModel", "draft", "(C)Z"⟩
abbrev w_M_draft : List Cond := .code y_M_draft b_M_draft 2 (some .boolean) :: tbl
abbrev b_M_scrap : ByteArray := prog_11_method_3_code
abbrev y_M_scrap : MethodName := ⟨"DecimalPatternsModel", "scrap", "()V"⟩
abbrev w_M_scrap : List Cond := .code y_M_scrap b_M_scrap 1 none :: tbl
abbrev b_M_begin : ByteArray := prog_11_method_4_code
abbrev y_M_begin : MethodName := ⟨"DecimalPatternsModel", "begin", "(I)V"⟩
abbrev w_M_begin : List Cond := .code y_M_begin b_M_begin 3 none :: tbl
abbrev b_M_keep : ByteArray := prog_11_method_5_code
abbrev y_M_keep : MethodName := ⟨"DecimalPatternsModel", "keep", "(I)V"⟩
abbrev w_M_keep : List Cond := .code y_M_keep b_M_keep 3 none :: tbl
abbrev b_M_special : ByteArray := prog_11_method_6_code
abbrev y_M_special : MethodName := ⟨"DecimalPatternsModel", "special", "(I)Z"⟩
abbrev w_M_special : List Cond := .code y_M_special b_M_special 1 (some .boolean) :: tbl
abbrev b_M_plainAffix : ByteArray := prog_11_method_7_code
abbrev y_M_plainAffix : MethodName := ⟨"DecimalPatternsModel", "plainAffix", "(II)Z"⟩
abbrev w_M_plainAffix : List Cond := .code y_M_plainAffix b_M_plainAffix 3 (some .boolean) :: tbl
abbrev b_M_inQuote : ByteArray := prog_11_method_8_code
abbrev y_M_inQuote : MethodName := ⟨"DecimalPatternsModel", "inQuote", "(II)V"⟩
abbrev w_M_inQuote : List Cond := .code y_M_inQuote b_M_inQuote 3 none :: tbl
abbrev b_M_integerDigit : ByteArray := prog_11_method_9_code
abbrev y_M_integerDigit : MethodName := ⟨"DecimalPatternsModel", "integerDigit", "(I)Z"⟩
abbrev w_M_integerDigit : List Cond := .code y_M_integerDigit b_M_integerDigit 2 (some .boolean) :: tbl
abbrev b_M_power : ByteArray := prog_11_method_10_code
abbrev y_M_power : MethodName := ⟨"DecimalPatternsModel", "power", "()Z"⟩
abbrev w_M_power : List Cond := .code y_M_power b_M_power 1 (some .boolean) :: tbl
abbrev b_M_copy : ByteArray := prog_11_method_12_code
abbrev y_M_copy : MethodName := ⟨"DecimalPatternsModel", "copy", "([I[I)V"⟩
abbrev w_M_copy : List Cond := .code y_M_copy b_M_copy 3 none :: tbl
abbrev b_M_behind : ByteArray := prog_11_method_11_code
abbrev y_M_behind : MethodName := ⟨"DecimalPatternsModel", "behind", "(I)Z"⟩
abbrev w_M_behind : List Cond := .code y_M_behind b_M_behind 3 (some .boolean) :: tbl
abbrev b_M_inNumber : ByteArray := prog_11_method_13_code
abbrev y_M_inNumber : MethodName := ⟨"DecimalPatternsModel", "inNumber", "(I)Z"⟩
abbrev w_M_inNumber : List Cond := .code y_M_inNumber b_M_inNumber 2 (some .boolean) :: tbl
abbrev b_M_inFraction : ByteArray := prog_11_method_14_code
abbrev y_M_inFraction : MethodName := ⟨"DecimalPatternsModel", "inFraction", "(I)Z"⟩
abbrev w_M_inFraction : List Cond := .code y_M_inFraction b_M_inFraction 3 (some .boolean) :: tbl
abbrev b_M_step : ByteArray := prog_11_method_15_code
abbrev y_M_step : MethodName := ⟨"DecimalPatternsModel", "step", "(I)Z"⟩
abbrev w_M_step : List Cond := .code y_M_step b_M_step 2 (some .boolean) :: tbl
abbrev b_M_apply : ByteArray := prog_11_method_16_code
abbrev y_M_apply : MethodName := ⟨"DecimalPatternsModel", "apply", "()I"⟩
abbrev w_M_apply : List Cond := .code y_M_apply b_M_apply 3 (some .int) :: tbl
abbrev b_M_sign : ByteArray := prog_11_method_18_code
abbrev y_M_sign : MethodName := ⟨"DecimalPatternsModel", "sign", "(I)I"⟩
abbrev w_M_sign : List Cond := .code y_M_sign b_M_sign 2 (some .int) :: tbl
abbrev b_M_symbol : ByteArray := prog_11_method_17_code
abbrev y_M_symbol : MethodName := ⟨"DecimalPatternsModel", "symbol", "(IC)Z"⟩
abbrev w_M_symbol : List Cond := .code y_M_symbol b_M_symbol 7 (some .boolean) :: tbl
abbrev b_M_groupFrom : ByteArray := prog_11_method_19_code
abbrev y_M_groupFrom : MethodName := ⟨"DecimalPatternsModel", "groupFrom", "(I)Z"⟩
abbrev w_M_groupFrom : List Cond := .code y_M_groupFrom b_M_groupFrom 2 (some .boolean) :: tbl
abbrev b_M_percent : ByteArray := prog_11_method_20_code
abbrev y_M_percent : MethodName := ⟨"DecimalPatternsModel", "percent", "()Z"⟩
abbrev w_M_percent : List Cond := .code y_M_percent b_M_percent 4 (some .boolean) :: tbl
abbrev b_M_load : ByteArray := prog_11_method_21_code
abbrev y_M_load : MethodName := ⟨"DecimalPatternsModel", "load", "(JI)V"⟩
abbrev w_M_load : List Cond := .code y_M_load b_M_load 8 none :: tbl
abbrev b_M_digitAt : ByteArray := prog_11_method_22_code
abbrev y_M_digitAt : MethodName := ⟨"DecimalPatternsModel", "digitAt", "(I)I"⟩
abbrev w_M_digitAt : List Cond := .code y_M_digitAt b_M_digitAt 2 (some .int) :: tbl
abbrev b_M_top : ByteArray := prog_11_method_23_code
abbrev y_M_top : MethodName := ⟨"DecimalPatternsModel", "top", "()I"⟩
abbrev w_M_top : List Cond := .code y_M_top b_M_top 3 (some .int) :: tbl
abbrev b_M_below : ByteArray := prog_11_method_24_code
abbrev y_M_below : MethodName := ⟨"DecimalPatternsModel", "below", "(I)Z"⟩
abbrev w_M_below : List Cond := .code y_M_below b_M_below 4 (some .boolean) :: tbl
abbrev b_M_upwards : ByteArray := prog_11_method_25_code
abbrev y_M_upwards : MethodName := ⟨"DecimalPatternsModel", "upwards", "(IZI)Z"⟩
abbrev w_M_upwards : List Cond := .code y_M_upwards b_M_upwards 6 (some .boolean) :: tbl
abbrev b_M_round : ByteArray := prog_11_method_26_code
abbrev y_M_round : MethodName := ⟨"DecimalPatternsModel", "round", "(IZI)Z"⟩
abbrev w_M_round : List Cond := .code y_M_round b_M_round 6 (some .boolean) :: tbl
abbrev b_M_put : ByteArray := prog_11_method_27_code
abbrev y_M_put : MethodName := ⟨"DecimalPatternsModel", "put", "(I)V"⟩
abbrev w_M_put : List Cond := .code y_M_put b_M_put 2 none :: tbl
abbrev b_M_putAffix : ByteArray := prog_11_method_28_code
abbrev y_M_putAffix : MethodName := ⟨"DecimalPatternsModel", "putAffix", "(I)V"⟩
abbrev w_M_putAffix : List Cond := .code y_M_putAffix b_M_putAffix 4 none :: tbl
abbrev b_M_floorOf : ByteArray := prog_11_method_29_code
abbrev y_M_floorOf : MethodName := ⟨"DecimalPatternsModel", "floorOf", "(II)I"⟩
abbrev w_M_floorOf : List Cond := .code y_M_floorOf b_M_floorOf 2 (some .int) :: tbl
abbrev b_M_border : ByteArray := prog_11_method_30_code
abbrev y_M_border : MethodName := ⟨"DecimalPatternsModel", "border", "(I)Z"⟩
abbrev w_M_border : List Cond := .code y_M_border b_M_border 2 (some .boolean) :: tbl
abbrev b_M_putDigits : ByteArray := prog_11_method_31_code
abbrev y_M_putDigits : MethodName := ⟨"DecimalPatternsModel", "putDigits", "(I)V"⟩
abbrev w_M_putDigits : List Cond := .code y_M_putDigits b_M_putDigits 9 none :: tbl
abbrev b_M_putExponent : ByteArray := prog_11_method_32_code
abbrev y_M_putExponent : MethodName := ⟨"DecimalPatternsModel", "putExponent", "(I)V"⟩
abbrev w_M_putExponent : List Cond := .code y_M_putExponent b_M_putExponent 6 none :: tbl
abbrev b_M_render : ByteArray := prog_11_method_33_code
abbrev y_M_render : MethodName := ⟨"DecimalPatternsModel", "render", "(ZJII)Z"⟩
abbrev w_M_render : List Cond := .code y_M_render b_M_render 10 (some .boolean) :: tbl
abbrev b_M_write : ByteArray := prog_11_method_34_code
abbrev y_M_write : MethodName := ⟨"DecimalPatternsModel", "write", "(JII)I"⟩
abbrev w_M_write : List Cond := .code y_M_write b_M_write 6 (some .int) :: tbl
abbrev b_M_type : ByteArray := prog_11_method_35_code
abbrev y_M_type : MethodName := ⟨"DecimalPatternsModel", "type", "(C)Z"⟩
abbrev w_M_type : List Cond := .code y_M_type b_M_type 2 (some .boolean) :: tbl
abbrev b_M_wipe : ByteArray := prog_11_method_36_code
abbrev y_M_wipe : MethodName := ⟨"DecimalPatternsModel", "wipe", "()V"⟩
abbrev w_M_wipe : List Cond := .code y_M_wipe b_M_wipe 1 none :: tbl
abbrev b_M_length : ByteArray := prog_11_method_37_code
abbrev y_M_length : MethodName := ⟨"DecimalPatternsModel", "length", "()I"⟩
abbrev w_M_length : List Cond := .code y_M_length b_M_length 1 (some .int) :: tbl
abbrev b_M_at : ByteArray := prog_11_method_38_code
abbrev y_M_at : MethodName := ⟨"DecimalPatternsModel", "at", "(I)I"⟩
abbrev w_M_at : List Cond := .code y_M_at b_M_at 2 (some .int) :: tbl
abbrev b_M_beginning : ByteArray := prog_11_method_39_code
abbrev y_M_beginning : MethodName := ⟨"DecimalPatternsModel", "beginning", "(Z)I"⟩
abbrev w_M_beginning : List Cond := .code y_M_beginning b_M_beginning 2 (some .int) :: tbl
abbrev b_M_push : ByteArray := prog_11_method_41_code
abbrev y_M_push : MethodName := ⟨"DecimalPatternsModel", "push", "(II)Z"⟩
abbrev w_M_push : List Cond := .code y_M_push b_M_push 4 (some .boolean) :: tbl
abbrev b_M_loose : ByteArray := prog_11_method_40_code
abbrev y_M_loose : MethodName := ⟨"DecimalPatternsModel", "loose", "(II)Z"⟩
abbrev w_M_loose : List Cond := .code y_M_loose b_M_loose 13 (some .boolean) :: tbl
abbrev b_M_settle : ByteArray := prog_11_method_42_code
abbrev y_M_settle : MethodName := ⟨"DecimalPatternsModel", "settle", "()Z"⟩
abbrev w_M_settle : List Cond := .code y_M_settle b_M_settle 1 (some .boolean) :: tbl
abbrev b_M_isText : ByteArray := prog_11_method_43_code
abbrev y_M_isText : MethodName := ⟨"DecimalPatternsModel", "isText", "(Z)Z"⟩
abbrev w_M_isText : List Cond := .code y_M_isText b_M_isText 4 (some .boolean) :: tbl
abbrev b_M_readAs : ByteArray := prog_11_method_44_code
abbrev y_M_readAs : MethodName := ⟨"DecimalPatternsModel", "readAs", "(Z)Z"⟩
abbrev w_M_readAs : List Cond := .code y_M_readAs b_M_readAs 4 (some .boolean) :: tbl
abbrev b_M_read : ByteArray := prog_11_method_45_code
abbrev y_M_read : MethodName := ⟨"DecimalPatternsModel", "read", "()I"⟩
abbrev w_M_read : List Cond := .code y_M_read b_M_read 2 (some .int) :: tbl
abbrev b_M_size : ByteArray := prog_11_method_46_code
abbrev y_M_size : MethodName := ⟨"DecimalPatternsModel", "size", "()J"⟩
abbrev w_M_size : List Cond := .code y_M_size b_M_size 1 (some .long) :: tbl
abbrev b_M_scale : ByteArray := prog_11_method_47_code
abbrev y_M_scale : MethodName := ⟨"DecimalPatternsModel", "scale", "()I"⟩
abbrev w_M_scale : List Cond := .code y_M_scale b_M_scale 1 (some .int) :: tbl
end
section
theorem tw0 : (Cond.selects "DecimalPatterns$PatternMaker" ⟨"DecimalPatterns$PatternMaker", "beginSub", "(LDecimalPatterns$Sub;)V"⟩ ⟨"DecimalPatterns$PatternMaker", "beginSub", "(LDecimalPatterns$Sub;)V"⟩) ∈ tbl := tbl_in (i := 0) (by decide +kernel) (by decide +kernel)
theorem tw1 : (Cond.selects "DecimalPatterns$PatternMaker" ⟨"DecimalPatterns$PatternMaker", "take", "(I)Z"⟩ ⟨"DecimalPatterns$PatternMaker", "take", "(I)Z"⟩) ∈ tbl := tbl_in (i := 1) (by decide +kernel) (by decide +kernel)
theorem tw2 : (Cond.selects "DecimalPatterns$PatternMaker" ⟨"DecimalPatterns$PatternMaker", "takeQuoted", "(I)V"⟩ ⟨"DecimalPatterns$PatternMaker", "takeQuoted", "(I)V"⟩) ∈ tbl := tbl_in (i := 2) (by decide +kernel) (by decide +kernel)
theorem tw3 : (Cond.selects "DecimalPatterns$PatternMaker" ⟨"DecimalPatterns$PatternMaker", "openAffix", "()LDecimalPatterns$Row;"⟩ ⟨"DecimalPatterns$PatternMaker", "openAffix", "()LDecimalPatterns$Row;"⟩) ∈ tbl := tbl_in (i := 3) (by decide +kernel) (by decide +kernel)
theorem tw4 : (Cond.selects "DecimalPatterns$PatternMaker" ⟨"DecimalPatterns$PatternMaker", "takeHash", "()Z"⟩ ⟨"DecimalPatterns$PatternMaker", "takeHash", "()Z"⟩) ∈ tbl := tbl_in (i := 4) (by decide +kernel) (by decide +kernel)
theorem tw5 : (Cond.selects "DecimalPatterns$PatternMaker" ⟨"DecimalPatterns$PatternMaker", "inInteger", "()Z"⟩ ⟨"DecimalPatterns$PatternMaker", "inInteger", "()Z"⟩) ∈ tbl := tbl_in (i := 5) (by decide +kernel) (by decide +kernel)
theorem tw6 : (Cond.selects "DecimalPatterns$PatternMaker" ⟨"DecimalPatterns$PatternMaker", "takeZero", "()Z"⟩ ⟨"DecimalPatterns$PatternMaker", "takeZero", "()Z"⟩) ∈ tbl := tbl_in (i := 6) (by decide +kernel) (by decide +kernel)
theorem tw7 : (Cond.selects "DecimalPatterns$PatternMaker" ⟨"DecimalPatterns$PatternMaker", "takeFractionZero", "()Z"⟩ ⟨"DecimalPatterns$PatternMaker", "takeFractionZero", "()Z"⟩) ∈ tbl := tbl_in (i := 7) (by decide +kernel) (by decide +kernel)
theorem tw8 : (Cond.selects "DecimalPatterns$PatternMaker" ⟨"DecimalPatterns$PatternMaker", "takeComma", "()Z"⟩ ⟨"DecimalPatterns$PatternMaker", "takeComma", "()Z"⟩) ∈ tbl := tbl_in (i := 8) (by decide +kernel) (by decide +kernel)
theorem tw9 : (Cond.selects "DecimalPatterns$PatternMaker" ⟨"DecimalPatterns$PatternMaker", "takePoint", "()Z"⟩ ⟨"DecimalPatterns$PatternMaker", "takePoint", "()Z"⟩) ∈ tbl := tbl_in (i := 9) (by decide +kernel) (by decide +kernel)
theorem tw10 : (Cond.selects "DecimalPatterns$PatternMaker" ⟨"DecimalPatterns$PatternMaker", "takeE", "()Z"⟩ ⟨"DecimalPatterns$PatternMaker", "takeE", "()Z"⟩) ∈ tbl := tbl_in (i := 10) (by decide +kernel) (by decide +kernel)
theorem tw11 : (Cond.selects "DecimalPatterns$PatternMaker" ⟨"DecimalPatterns$PatternMaker", "takeSemicolon", "()Z"⟩ ⟨"DecimalPatterns$PatternMaker", "takeSemicolon", "()Z"⟩) ∈ tbl := tbl_in (i := 11) (by decide +kernel) (by decide +kernel)
theorem tw12 : (Cond.selects "DecimalPatterns$PatternMaker" ⟨"DecimalPatterns$PatternMaker", "numberEnded", "()Z"⟩ ⟨"DecimalPatterns$PatternMaker", "numberEnded", "()Z"⟩) ∈ tbl := tbl_in (i := 12) (by decide +kernel) (by decide +kernel)
theorem tw13 : (Cond.selects "DecimalPatterns$PatternMaker" ⟨"DecimalPatterns$PatternMaker", "takePlus", "()Z"⟩ ⟨"DecimalPatterns$PatternMaker", "takePlus", "()Z"⟩) ∈ tbl := tbl_in (i := 13) (by decide +kernel) (by decide +kernel)
theorem tw14 : (Cond.selects "DecimalPatterns$PatternMaker" ⟨"DecimalPatterns$PatternMaker", "takeAffix", "(I)Z"⟩ ⟨"DecimalPatterns$PatternMaker", "takeAffix", "(I)Z"⟩) ∈ tbl := tbl_in (i := 14) (by decide +kernel) (by decide +kernel)
theorem tw15 : (Cond.selects "DecimalPatterns$PatternMaker" ⟨"DecimalPatterns$PatternMaker", "enterAffix", "()Z"⟩ ⟨"DecimalPatterns$PatternMaker", "enterAffix", "()Z"⟩) ∈ tbl := tbl_in (i := 15) (by decide +kernel) (by decide +kernel)
theorem tw16 : (Cond.selects "DecimalPatterns$Symbols" ⟨"DecimalPatterns$Symbols", "areSound", "()Z"⟩ ⟨"DecimalPatterns$Symbols", "areSound", "()Z"⟩) ∈ tbl := tbl_in (i := 16) (by decide +kernel) (by decide +kernel)
theorem tw17 : (Cond.selects "DecimalPatterns$Symbols" ⟨"DecimalPatterns$Symbols", "standsBefore", "(II)Z"⟩ ⟨"DecimalPatterns$Symbols", "standsBefore", "(II)Z"⟩) ∈ tbl := tbl_in (i := 17) (by decide +kernel) (by decide +kernel)
theorem tw18 : (Cond.selects "DecimalPatterns$Amount" ⟨"DecimalPatterns$Amount", "clearBelow", "(I)V"⟩ ⟨"DecimalPatterns$Amount", "clearBelow", "(I)V"⟩) ∈ tbl := tbl_in (i := 18) (by decide +kernel) (by decide +kernel)
theorem tw19 : (Cond.selects "DecimalPatterns$Amount" ⟨"DecimalPatterns$Amount", "put", "(II)V"⟩ ⟨"DecimalPatterns$Amount", "put", "(II)V"⟩) ∈ tbl := tbl_in (i := 19) (by decide +kernel) (by decide +kernel)
theorem tw20 : (Cond.selects "DecimalPatterns$Scribe" ⟨"DecimalPatterns$Scribe", "roundingPower", "(LDecimalPatterns$Sub;)I"⟩ ⟨"DecimalPatterns$Scribe", "roundingPower", "(LDecimalPatterns$Sub;)I"⟩) ∈ tbl := tbl_in (i := 20) (by decide +kernel) (by decide +kernel)
theorem tw21 : (Cond.selects "DecimalPatterns$Amount" ⟨"DecimalPatterns$Amount", "anyBelow", "(I)Z"⟩ ⟨"DecimalPatterns$Amount", "anyBelow", "(I)Z"⟩) ∈ tbl := tbl_in (i := 21) (by decide +kernel) (by decide +kernel)
theorem tw22 : (Cond.selects "DecimalPatterns$Amount" ⟨"DecimalPatterns$Amount", "goesUp", "(IIZ)Z"⟩ ⟨"DecimalPatterns$Amount", "goesUp", "(IIZ)Z"⟩) ∈ tbl := tbl_in (i := 22) (by decide +kernel) (by decide +kernel)
theorem tw23 : (Cond.selects "DecimalPatterns$Amount" ⟨"DecimalPatterns$Amount", "againstHalf", "(I)I"⟩ ⟨"DecimalPatterns$Amount", "againstHalf", "(I)I"⟩) ∈ tbl := tbl_in (i := 23) (by decide +kernel) (by decide +kernel)
theorem tw24 : (Cond.selects "DecimalPatterns$Amount" ⟨"DecimalPatterns$Amount", "addOneAt", "(I)V"⟩ ⟨"DecimalPatterns$Amount", "addOneAt", "(I)V"⟩) ∈ tbl := tbl_in (i := 24) (by decide +kernel) (by decide +kernel)
theorem tw25 : (Cond.selects "DecimalPatterns$Scribe" ⟨"DecimalPatterns$Scribe", "putSymbol", "(I)V"⟩ ⟨"DecimalPatterns$Scribe", "putSymbol", "(I)V"⟩) ∈ tbl := tbl_in (i := 25) (by decide +kernel) (by decide +kernel)
theorem tw26 : (Cond.selects "DecimalPatterns$Scribe" ⟨"DecimalPatterns$Scribe", "putAffix", "(LDecimalPatterns$Row;)V"⟩ ⟨"DecimalPatterns$Scribe", "putAffix", "(LDecimalPatterns$Row;)V"⟩) ∈ tbl := tbl_in (i := 26) (by decide +kernel) (by decide +kernel)
theorem tw27 : (Cond.selects "DecimalPatterns$Scribe" ⟨"DecimalPatterns$Scribe", "exponentFor", "(LDecimalPatterns$Sub;)I"⟩ ⟨"DecimalPatterns$Scribe", "exponentFor", "(LDecimalPatterns$Sub;)I"⟩) ∈ tbl := tbl_in (i := 27) (by decide +kernel) (by decide +kernel)
theorem tw28 : (Cond.selects "DecimalPatterns$Scribe" ⟨"DecimalPatterns$Scribe", "putDigits", "(LDecimalPatterns$Sub;I)V"⟩ ⟨"DecimalPatterns$Scribe", "putDigits", "(LDecimalPatterns$Sub;I)V"⟩) ∈ tbl := tbl_in (i := 28) (by decide +kernel) (by decide +kernel)
theorem tw29 : (Cond.selects "DecimalPatterns$Scribe" ⟨"DecimalPatterns$Scribe", "putWhole", "(LDecimalPatterns$Sub;II)V"⟩ ⟨"DecimalPatterns$Scribe", "putWhole", "(LDecimalPatterns$Sub;II)V"⟩) ∈ tbl := tbl_in (i := 29) (by decide +kernel) (by decide +kernel)
theorem tw30 : (Cond.selects "DecimalPatterns$Scribe" ⟨"DecimalPatterns$Scribe", "putDigit", "(I)V"⟩ ⟨"DecimalPatterns$Scribe", "putDigit", "(I)V"⟩) ∈ tbl := tbl_in (i := 30) (by decide +kernel) (by decide +kernel)
theorem tw31 : (Cond.selects "DecimalPatterns$Scribe" ⟨"DecimalPatterns$Scribe", "putExponent", "(LDecimalPatterns$Sub;I)V"⟩ ⟨"DecimalPatterns$Scribe", "putExponent", "(LDecimalPatterns$Sub;I)V"⟩) ∈ tbl := tbl_in (i := 31) (by decide +kernel) (by decide +kernel)
theorem tw32 : (Cond.selects "DecimalPatterns$Finder" ⟨"DecimalPatterns$Finder", "gather", "(LDecimalPatterns$Pattern;LDecimalPatterns$Row;Z)Z"⟩ ⟨"DecimalPatterns$Finder", "gather", "(LDecimalPatterns$Pattern;LDecimalPatterns$Row;Z)Z"⟩) ∈ tbl := tbl_in (i := 32) (by decide +kernel) (by decide +kernel)
theorem tw33 : (Cond.selects "DecimalPatterns$Finder" ⟨"DecimalPatterns$Finder", "begin", "()V"⟩ ⟨"DecimalPatterns$Finder", "begin", "()V"⟩) ∈ tbl := tbl_in (i := 33) (by decide +kernel) (by decide +kernel)
theorem tw34 : (Cond.selects "DecimalPatterns$Finder" ⟨"DecimalPatterns$Finder", "take", "(I)Z"⟩ ⟨"DecimalPatterns$Finder", "take", "(I)Z"⟩) ∈ tbl := tbl_in (i := 34) (by decide +kernel) (by decide +kernel)
theorem tw35 : (Cond.selects "DecimalPatterns$Finder" ⟨"DecimalPatterns$Finder", "takeDigit", "(I)Z"⟩ ⟨"DecimalPatterns$Finder", "takeDigit", "(I)Z"⟩) ∈ tbl := tbl_in (i := 35) (by decide +kernel) (by decide +kernel)
theorem tw36 : (Cond.selects "DecimalPatterns$Finder" ⟨"DecimalPatterns$Finder", "takeZerosBehind", "()Z"⟩ ⟨"DecimalPatterns$Finder", "takeZerosBehind", "()Z"⟩) ∈ tbl := tbl_in (i := 36) (by decide +kernel) (by decide +kernel)
theorem tw37 : (Cond.selects "DecimalPatterns$Finder" ⟨"DecimalPatterns$Finder", "append", "(I)Z"⟩ ⟨"DecimalPatterns$Finder", "append", "(I)Z"⟩) ∈ tbl := tbl_in (i := 37) (by decide +kernel) (by decide +kernel)
theorem tw38 : (Cond.selects "DecimalPatterns$Finder" ⟨"DecimalPatterns$Finder", "enter", "(I)Z"⟩ ⟨"DecimalPatterns$Finder", "enter", "(I)Z"⟩) ∈ tbl := tbl_in (i := 38) (by decide +kernel) (by decide +kernel)
theorem tw39 : (Cond.selects "DecimalPatterns$Finder" ⟨"DecimalPatterns$Finder", "settle", "(Z)Z"⟩ ⟨"DecimalPatterns$Finder", "settle", "(Z)Z"⟩) ∈ tbl := tbl_in (i := 39) (by decide +kernel) (by decide +kernel)
theorem tw40 : (Cond.selects "DecimalPatterns" ⟨"DecimalPatterns", "keepFound", "(JI)V"⟩ ⟨"DecimalPatterns", "keepFound", "(JI)V"⟩) ∈ tbl := tbl_in (i := 40) (by decide +kernel) (by decide +kernel)
theorem tw41 : (Cond.selects "DecimalPatternsModel" ⟨"DecimalPatternsModel", "begin", "(I)V"⟩ ⟨"DecimalPatternsModel", "begin", "(I)V"⟩) ∈ tbl := tbl_in (i := 41) (by decide +kernel) (by decide +kernel)
theorem tw42 : (Cond.selects "DecimalPatternsModel" ⟨"DecimalPatternsModel", "step", "(I)Z"⟩ ⟨"DecimalPatternsModel", "step", "(I)Z"⟩) ∈ tbl := tbl_in (i := 42) (by decide +kernel) (by decide +kernel)
theorem tw43 : (Cond.selects "DecimalPatternsModel" ⟨"DecimalPatternsModel", "integerDigit", "(I)Z"⟩ ⟨"DecimalPatternsModel", "integerDigit", "(I)Z"⟩) ∈ tbl := tbl_in (i := 43) (by decide +kernel) (by decide +kernel)
theorem tw44 : (Cond.selects "DecimalPatternsModel" ⟨"DecimalPatternsModel", "plainAffix", "(II)Z"⟩ ⟨"DecimalPatternsModel", "plainAffix", "(II)Z"⟩) ∈ tbl := tbl_in (i := 44) (by decide +kernel) (by decide +kernel)
theorem tw45 : (Cond.selects "DecimalPatternsModel" ⟨"DecimalPatternsModel", "keep", "(I)V"⟩ ⟨"DecimalPatternsModel", "keep", "(I)V"⟩) ∈ tbl := tbl_in (i := 45) (by decide +kernel) (by decide +kernel)
theorem tw46 : (Cond.selects "DecimalPatternsModel" ⟨"DecimalPatternsModel", "inQuote", "(II)V"⟩ ⟨"DecimalPatternsModel", "inQuote", "(II)V"⟩) ∈ tbl := tbl_in (i := 46) (by decide +kernel) (by decide +kernel)
theorem tw47 : (Cond.selects "DecimalPatternsModel" ⟨"DecimalPatternsModel", "inNumber", "(I)Z"⟩ ⟨"DecimalPatternsModel", "inNumber", "(I)Z"⟩) ∈ tbl := tbl_in (i := 47) (by decide +kernel) (by decide +kernel)
theorem tw48 : (Cond.selects "DecimalPatternsModel" ⟨"DecimalPatternsModel", "power", "()Z"⟩ ⟨"DecimalPatternsModel", "power", "()Z"⟩) ∈ tbl := tbl_in (i := 48) (by decide +kernel) (by decide +kernel)
theorem tw49 : (Cond.selects "DecimalPatternsModel" ⟨"DecimalPatternsModel", "behind", "(I)Z"⟩ ⟨"DecimalPatternsModel", "behind", "(I)Z"⟩) ∈ tbl := tbl_in (i := 49) (by decide +kernel) (by decide +kernel)
theorem tw50 : (Cond.selects "DecimalPatternsModel" ⟨"DecimalPatternsModel", "inFraction", "(I)Z"⟩ ⟨"DecimalPatternsModel", "inFraction", "(I)Z"⟩) ∈ tbl := tbl_in (i := 50) (by decide +kernel) (by decide +kernel)
theorem tw51 : (Cond.selects "DecimalPatternsModel" ⟨"DecimalPatternsModel", "sign", "(I)I"⟩ ⟨"DecimalPatternsModel", "sign", "(I)I"⟩) ∈ tbl := tbl_in (i := 51) (by decide +kernel) (by decide +kernel)
theorem tw52 : (Cond.selects "DecimalPatternsModel" ⟨"DecimalPatternsModel", "render", "(ZJII)Z"⟩ ⟨"DecimalPatternsModel", "render", "(ZJII)Z"⟩) ∈ tbl := tbl_in (i := 52) (by decide +kernel) (by decide +kernel)
theorem tw53 : (Cond.selects "DecimalPatternsModel" ⟨"DecimalPatternsModel", "load", "(JI)V"⟩ ⟨"DecimalPatternsModel", "load", "(JI)V"⟩) ∈ tbl := tbl_in (i := 53) (by decide +kernel) (by decide +kernel)
theorem tw54 : (Cond.selects "DecimalPatternsModel" ⟨"DecimalPatternsModel", "percent", "()Z"⟩ ⟨"DecimalPatternsModel", "percent", "()Z"⟩) ∈ tbl := tbl_in (i := 54) (by decide +kernel) (by decide +kernel)
theorem tw55 : (Cond.selects "DecimalPatternsModel" ⟨"DecimalPatternsModel", "round", "(IZI)Z"⟩ ⟨"DecimalPatternsModel", "round", "(IZI)Z"⟩) ∈ tbl := tbl_in (i := 55) (by decide +kernel) (by decide +kernel)
theorem tw56 : (Cond.selects "DecimalPatternsModel" ⟨"DecimalPatternsModel", "below", "(I)Z"⟩ ⟨"DecimalPatternsModel", "below", "(I)Z"⟩) ∈ tbl := tbl_in (i := 56) (by decide +kernel) (by decide +kernel)
theorem tw57 : (Cond.selects "DecimalPatternsModel" ⟨"DecimalPatternsModel", "digitAt", "(I)I"⟩ ⟨"DecimalPatternsModel", "digitAt", "(I)I"⟩) ∈ tbl := tbl_in (i := 57) (by decide +kernel) (by decide +kernel)
theorem tw58 : (Cond.selects "DecimalPatternsModel" ⟨"DecimalPatternsModel", "upwards", "(IZI)Z"⟩ ⟨"DecimalPatternsModel", "upwards", "(IZI)Z"⟩) ∈ tbl := tbl_in (i := 58) (by decide +kernel) (by decide +kernel)
theorem tw59 : (Cond.selects "DecimalPatternsModel" ⟨"DecimalPatternsModel", "top", "()I"⟩ ⟨"DecimalPatternsModel", "top", "()I"⟩) ∈ tbl := tbl_in (i := 59) (by decide +kernel) (by decide +kernel)
theorem tw60 : (Cond.selects "DecimalPatternsModel" ⟨"DecimalPatternsModel", "put", "(I)V"⟩ ⟨"DecimalPatternsModel", "put", "(I)V"⟩) ∈ tbl := tbl_in (i := 60) (by decide +kernel) (by decide +kernel)
theorem tw61 : (Cond.selects "DecimalPatternsModel" ⟨"DecimalPatternsModel", "putAffix", "(I)V"⟩ ⟨"DecimalPatternsModel", "putAffix", "(I)V"⟩) ∈ tbl := tbl_in (i := 61) (by decide +kernel) (by decide +kernel)
theorem tw62 : (Cond.selects "DecimalPatternsModel" ⟨"DecimalPatternsModel", "putDigits", "(I)V"⟩ ⟨"DecimalPatternsModel", "putDigits", "(I)V"⟩) ∈ tbl := tbl_in (i := 62) (by decide +kernel) (by decide +kernel)
theorem tw63 : (Cond.selects "DecimalPatternsModel" ⟨"DecimalPatternsModel", "border", "(I)Z"⟩ ⟨"DecimalPatternsModel", "border", "(I)Z"⟩) ∈ tbl := tbl_in (i := 63) (by decide +kernel) (by decide +kernel)
theorem tw64 : (Cond.selects "DecimalPatternsModel" ⟨"DecimalPatternsModel", "putExponent", "(I)V"⟩ ⟨"DecimalPatternsModel", "putExponent", "(I)V"⟩) ∈ tbl := tbl_in (i := 64) (by decide +kernel) (by decide +kernel)
theorem tw65 : (Cond.selects "DecimalPatternsModel" ⟨"DecimalPatternsModel", "readAs", "(Z)Z"⟩ ⟨"DecimalPatternsModel", "readAs", "(Z)Z"⟩) ∈ tbl := tbl_in (i := 65) (by decide +kernel) (by decide +kernel)
theorem tw66 : (Cond.selects "DecimalPatternsModel" ⟨"DecimalPatternsModel", "beginning", "(Z)I"⟩ ⟨"DecimalPatternsModel", "beginning", "(Z)I"⟩) ∈ tbl := tbl_in (i := 66) (by decide +kernel) (by decide +kernel)
theorem tw67 : (Cond.selects "DecimalPatternsModel" ⟨"DecimalPatternsModel", "loose", "(II)Z"⟩ ⟨"DecimalPatternsModel", "loose", "(II)Z"⟩) ∈ tbl := tbl_in (i := 67) (by decide +kernel) (by decide +kernel)
theorem tw68 : (Cond.selects "DecimalPatternsModel" ⟨"DecimalPatternsModel", "push", "(II)Z"⟩ ⟨"DecimalPatternsModel", "push", "(II)Z"⟩) ∈ tbl := tbl_in (i := 68) (by decide +kernel) (by decide +kernel)
theorem tw69 : (Cond.selects "DecimalPatternsModel" ⟨"DecimalPatternsModel", "settle", "()Z"⟩ ⟨"DecimalPatternsModel", "settle", "()Z"⟩) ∈ tbl := tbl_in (i := 69) (by decide +kernel) (by decide +kernel)
theorem tw70 : (Cond.selects "DecimalPatternsModel" ⟨"DecimalPatternsModel", "isText", "(Z)Z"⟩ ⟨"DecimalPatternsModel", "isText", "(Z)Z"⟩) ∈ tbl := tbl_in (i := 70) (by decide +kernel) (by decide +kernel)
theorem tw72 : (Cond.initialized "DecimalPatterns") ∈ tbl := tbl_in (i := 72) (by decide +kernel) (by decide +kernel)
theorem tw73 : (Cond.initialized "DecimalPatterns$Row") ∈ tbl := tbl_in (i := 73) (by decide +kernel) (by decide +kernel)
theorem tw74 : (Cond.initialized "java/lang/Math") ∈ tbl := tbl_in (i := 74) (by decide +kernel) (by decide +kernel)
theorem tw75 : (Cond.initialized "DecimalPatterns$Symbols") ∈ tbl := tbl_in (i := 75) (by decide +kernel) (by decide +kernel)
theorem tw76 : (Cond.initialized "DecimalPatterns$Scribe") ∈ tbl := tbl_in (i := 76) (by decide +kernel) (by decide +kernel)
theorem tw77 : (Cond.initialized "DecimalPatterns$Amount") ∈ tbl := tbl_in (i := 77) (by decide +kernel) (by decide +kernel)
theorem tw78 : (Cond.initialized "DecimalPatterns$Finder") ∈ tbl := tbl_in (i := 78) (by decide +kernel) (by decide +kernel)
theorem tw79 : (Cond.initialized "DecimalPatterns$Pattern") ∈ tbl := tbl_in (i := 79) (by decide +kernel) (by decide +kernel)
theorem tw80 : (Cond.initialized "DecimalPatterns$Sub") ∈ tbl := tbl_in (i := 80) (by decide +kernel) (by decide +kernel)
theorem tw81 : (Cond.initialized "DecimalPatterns$PatternMaker") ∈ tbl := tbl_in (i := 81) (by decide +kernel) (by decide +kernel)
theorem tw82 : (Cond.initialized "DecimalPatternsModel") ∈ tbl := tbl_in (i := 82) (by decide +kernel) (by decide +kernel)
theorem tw98 : (Cond.static ⟨"java/lang/Math", "max", "(II)I"⟩) ∈ tbl := tbl_in (i := 98) (by decide +kernel) (by decide +kernel)
theorem tw99 : (Cond.code ⟨"java/lang/Math", "max", "(II)I"⟩ prog_12_method_65_code 2 (some .int)) ∈ tbl := tbl_in (i := 99) (by decide +kernel) (by decide +kernel)
theorem tw100 : (Cond.fieldLink "DecimalPatterns$Row" 13 "DecimalPatterns$Row" "cells" "[I") ∈ tbl := tbl_in (i := 100) (by decide +kernel) (by decide +kernel)
theorem tw101 : (Cond.fieldLink "DecimalPatterns$Row" 19 "DecimalPatterns$Row" "count" "I") ∈ tbl := tbl_in (i := 101) (by decide +kernel) (by decide +kernel)
theorem tw102 : (Cond.fieldLink "DecimalPatterns$PatternMaker" 31 "DecimalPatterns$Row" "count" "I") ∈ tbl := tbl_in (i := 102) (by decide +kernel) (by decide +kernel)
theorem tw103 : (Cond.fieldLink "DecimalPatterns$Finder" 73 "DecimalPatterns$Row" "count" "I") ∈ tbl := tbl_in (i := 103) (by decide +kernel) (by decide +kernel)
theorem tw104 : (Cond.fieldLink "DecimalPatterns" 107 "DecimalPatterns$Row" "count" "I") ∈ tbl := tbl_in (i := 104) (by decide +kernel) (by decide +kernel)
theorem tw105 : (Cond.fieldLink "DecimalPatterns$Scribe" 166 "DecimalPatterns$Row" "count" "I") ∈ tbl := tbl_in (i := 105) (by decide +kernel) (by decide +kernel)
theorem tw118 : (Cond.fieldLink "DecimalPatterns$Symbols" 9 "DecimalPatterns$Symbols" "codes" "[I") ∈ tbl := tbl_in (i := 118) (by decide +kernel) (by decide +kernel)
theorem tw120 : (Cond.fieldLink "DecimalPatterns$Scribe" 139 "DecimalPatterns$Symbols" "groupLead" "I") ∈ tbl := tbl_in (i := 120) (by decide +kernel) (by decide +kernel)
theorem tw121 : (Cond.fieldLink "DecimalPatterns" 93 "DecimalPatterns$Symbols" "groupLead" "I") ∈ tbl := tbl_in (i := 121) (by decide +kernel) (by decide +kernel)
theorem tw141 : (Cond.fieldLink "DecimalPatterns$Amount" 11 "DecimalPatterns$Amount" "digits" "[I") ∈ tbl := tbl_in (i := 141) (by decide +kernel) (by decide +kernel)
theorem tw145 : (Cond.fieldLink "DecimalPatterns$Scribe" 14 "DecimalPatterns$Scribe" "page" "LDecimalPatterns$Row;") ∈ tbl := tbl_in (i := 145) (by decide +kernel) (by decide +kernel)
theorem tw146 : (Cond.fieldLink "DecimalPatterns$Finder" 53 "DecimalPatterns$Scribe" "page" "LDecimalPatterns$Row;") ∈ tbl := tbl_in (i := 146) (by decide +kernel) (by decide +kernel)
theorem tw147 : (Cond.fieldLink "DecimalPatterns" 100 "DecimalPatterns$Scribe" "page" "LDecimalPatterns$Row;") ∈ tbl := tbl_in (i := 147) (by decide +kernel) (by decide +kernel)
theorem tw148 : (Cond.fieldLink "DecimalPatterns$Scribe" 23 "DecimalPatterns$Scribe" "amount" "LDecimalPatterns$Amount;") ∈ tbl := tbl_in (i := 148) (by decide +kernel) (by decide +kernel)
theorem tw149 : (Cond.fieldLink "DecimalPatterns$Scribe" 27 "DecimalPatterns$Scribe" "symbols" "LDecimalPatterns$Symbols;") ∈ tbl := tbl_in (i := 149) (by decide +kernel) (by decide +kernel)
theorem tw163 : (Cond.fieldLink "DecimalPatterns$Finder" 9 "DecimalPatterns$Finder" "symbols" "LDecimalPatterns$Symbols;") ∈ tbl := tbl_in (i := 163) (by decide +kernel) (by decide +kernel)
theorem tw164 : (Cond.fieldLink "DecimalPatterns$Finder" 15 "DecimalPatterns$Finder" "scribe" "LDecimalPatterns$Scribe;") ∈ tbl := tbl_in (i := 164) (by decide +kernel) (by decide +kernel)
theorem tw165 : (Cond.fieldLink "DecimalPatterns$Finder" 39 "DecimalPatterns$Finder" "whole" "J") ∈ tbl := tbl_in (i := 165) (by decide +kernel) (by decide +kernel)
theorem tw166 : (Cond.fieldLink "DecimalPatterns" 121 "DecimalPatterns$Finder" "whole" "J") ∈ tbl := tbl_in (i := 166) (by decide +kernel) (by decide +kernel)
theorem tw167 : (Cond.fieldLink "DecimalPatterns$Finder" 43 "DecimalPatterns$Finder" "places" "I") ∈ tbl := tbl_in (i := 167) (by decide +kernel) (by decide +kernel)
theorem tw168 : (Cond.fieldLink "DecimalPatterns" 125 "DecimalPatterns$Finder" "places" "I") ∈ tbl := tbl_in (i := 168) (by decide +kernel) (by decide +kernel)
theorem tw169 : (Cond.fieldLink "DecimalPatterns$Finder" 90 "DecimalPatterns$Finder" "part" "I") ∈ tbl := tbl_in (i := 169) (by decide +kernel) (by decide +kernel)
theorem tw170 : (Cond.fieldLink "DecimalPatterns$Finder" 93 "DecimalPatterns$Finder" "zerosBehind" "I") ∈ tbl := tbl_in (i := 170) (by decide +kernel) (by decide +kernel)
theorem tw171 : (Cond.fieldLink "DecimalPatterns$Finder" 96 "DecimalPatterns$Finder" "exponent" "I") ∈ tbl := tbl_in (i := 171) (by decide +kernel) (by decide +kernel)
theorem tw172 : (Cond.fieldLink "DecimalPatterns$Finder" 99 "DecimalPatterns$Finder" "exponentNegative" "Z") ∈ tbl := tbl_in (i := 172) (by decide +kernel) (by decide +kernel)
theorem tw204 : (Cond.fieldLink "DecimalPatterns$Sub" 14 "DecimalPatterns$Sub" "prefix" "LDecimalPatterns$Row;") ∈ tbl := tbl_in (i := 204) (by decide +kernel) (by decide +kernel)
theorem tw205 : (Cond.fieldLink "DecimalPatterns$Scribe" 69 "DecimalPatterns$Sub" "prefix" "LDecimalPatterns$Row;") ∈ tbl := tbl_in (i := 205) (by decide +kernel) (by decide +kernel)
theorem tw206 : (Cond.fieldLink "DecimalPatterns$Finder" 70 "DecimalPatterns$Sub" "prefix" "LDecimalPatterns$Row;") ∈ tbl := tbl_in (i := 206) (by decide +kernel) (by decide +kernel)
theorem tw207 : (Cond.fieldLink "DecimalPatterns$PatternMaker" 141 "DecimalPatterns$Sub" "prefix" "LDecimalPatterns$Row;") ∈ tbl := tbl_in (i := 207) (by decide +kernel) (by decide +kernel)
theorem tw208 : (Cond.fieldLink "DecimalPatterns$Sub" 20 "DecimalPatterns$Sub" "suffix" "LDecimalPatterns$Row;") ∈ tbl := tbl_in (i := 208) (by decide +kernel) (by decide +kernel)
theorem tw209 : (Cond.fieldLink "DecimalPatterns$Scribe" 90 "DecimalPatterns$Sub" "suffix" "LDecimalPatterns$Row;") ∈ tbl := tbl_in (i := 209) (by decide +kernel) (by decide +kernel)
theorem tw210 : (Cond.fieldLink "DecimalPatterns$Finder" 79 "DecimalPatterns$Sub" "suffix" "LDecimalPatterns$Row;") ∈ tbl := tbl_in (i := 210) (by decide +kernel) (by decide +kernel)
theorem tw211 : (Cond.fieldLink "DecimalPatterns$PatternMaker" 145 "DecimalPatterns$Sub" "suffix" "LDecimalPatterns$Row;") ∈ tbl := tbl_in (i := 211) (by decide +kernel) (by decide +kernel)
theorem tw212 : (Cond.fieldLink "DecimalPatterns$Scribe" 37 "DecimalPatterns$Sub" "percentMeant" "Z") ∈ tbl := tbl_in (i := 212) (by decide +kernel) (by decide +kernel)
theorem tw213 : (Cond.fieldLink "DecimalPatterns$Finder" 29 "DecimalPatterns$Sub" "percentMeant" "Z") ∈ tbl := tbl_in (i := 213) (by decide +kernel) (by decide +kernel)
theorem tw214 : (Cond.fieldLink "DecimalPatterns$Sub" 26 "DecimalPatterns$Sub" "percentMeant" "Z") ∈ tbl := tbl_in (i := 214) (by decide +kernel) (by decide +kernel)
theorem tw215 : (Cond.fieldLink "DecimalPatterns$PatternMaker" 138 "DecimalPatterns$Sub" "percentMeant" "Z") ∈ tbl := tbl_in (i := 215) (by decide +kernel) (by decide +kernel)
theorem tw216 : (Cond.fieldLink "DecimalPatterns$Sub" 30 "DecimalPatterns$Sub" "hashes" "I") ∈ tbl := tbl_in (i := 216) (by decide +kernel) (by decide +kernel)
theorem tw217 : (Cond.fieldLink "DecimalPatterns$Scribe" 107 "DecimalPatterns$Sub" "hashes" "I") ∈ tbl := tbl_in (i := 217) (by decide +kernel) (by decide +kernel)
theorem tw218 : (Cond.fieldLink "DecimalPatterns$PatternMaker" 98 "DecimalPatterns$Sub" "hashes" "I") ∈ tbl := tbl_in (i := 218) (by decide +kernel) (by decide +kernel)
theorem tw220 : (Cond.fieldLink "DecimalPatterns$Sub" 34 "DecimalPatterns$Sub" "zeros" "I") ∈ tbl := tbl_in (i := 220) (by decide +kernel) (by decide +kernel)
theorem tw221 : (Cond.fieldLink "DecimalPatterns$Scribe" 101 "DecimalPatterns$Sub" "zeros" "I") ∈ tbl := tbl_in (i := 221) (by decide +kernel) (by decide +kernel)
theorem tw222 : (Cond.fieldLink "DecimalPatterns$PatternMaker" 95 "DecimalPatterns$Sub" "zeros" "I") ∈ tbl := tbl_in (i := 222) (by decide +kernel) (by decide +kernel)
theorem tw223 : (Cond.fieldLink "DecimalPatterns$Sub" 37 "DecimalPatterns$Sub" "commas" "I") ∈ tbl := tbl_in (i := 223) (by decide +kernel) (by decide +kernel)
theorem tw224 : (Cond.fieldLink "DecimalPatterns$PatternMaker" 113 "DecimalPatterns$Sub" "commas" "I") ∈ tbl := tbl_in (i := 224) (by decide +kernel) (by decide +kernel)
theorem tw225 : (Cond.fieldLink "DecimalPatterns$Sub" 40 "DecimalPatterns$Sub" "behindComma" "I") ∈ tbl := tbl_in (i := 225) (by decide +kernel) (by decide +kernel)
theorem tw226 : (Cond.fieldLink "DecimalPatterns$Scribe" 136 "DecimalPatterns$Sub" "behindComma" "I") ∈ tbl := tbl_in (i := 226) (by decide +kernel) (by decide +kernel)
theorem tw227 : (Cond.fieldLink "DecimalPatterns$PatternMaker" 101 "DecimalPatterns$Sub" "behindComma" "I") ∈ tbl := tbl_in (i := 227) (by decide +kernel) (by decide +kernel)
theorem tw228 : (Cond.fieldLink "DecimalPatterns$Sub" 43 "DecimalPatterns$Sub" "betweenCommas" "I") ∈ tbl := tbl_in (i := 228) (by decide +kernel) (by decide +kernel)
theorem tw229 : (Cond.fieldLink "DecimalPatterns$PatternMaker" 116 "DecimalPatterns$Sub" "betweenCommas" "I") ∈ tbl := tbl_in (i := 229) (by decide +kernel) (by decide +kernel)
theorem tw230 : (Cond.fieldLink "DecimalPatterns$Sub" 46 "DecimalPatterns$Sub" "fractionPlaces" "I") ∈ tbl := tbl_in (i := 230) (by decide +kernel) (by decide +kernel)
theorem tw231 : (Cond.fieldLink "DecimalPatterns$Scribe" 93 "DecimalPatterns$Sub" "fractionPlaces" "I") ∈ tbl := tbl_in (i := 231) (by decide +kernel) (by decide +kernel)
theorem tw232 : (Cond.fieldLink "DecimalPatterns$PatternMaker" 87 "DecimalPatterns$Sub" "fractionPlaces" "I") ∈ tbl := tbl_in (i := 232) (by decide +kernel) (by decide +kernel)
theorem tw233 : (Cond.fieldLink "DecimalPatterns$Sub" 49 "DecimalPatterns$Sub" "fractionZeros" "I") ∈ tbl := tbl_in (i := 233) (by decide +kernel) (by decide +kernel)
theorem tw234 : (Cond.fieldLink "DecimalPatterns$Scribe" 116 "DecimalPatterns$Sub" "fractionZeros" "I") ∈ tbl := tbl_in (i := 234) (by decide +kernel) (by decide +kernel)
theorem tw235 : (Cond.fieldLink "DecimalPatterns$PatternMaker" 110 "DecimalPatterns$Sub" "fractionZeros" "I") ∈ tbl := tbl_in (i := 235) (by decide +kernel) (by decide +kernel)
theorem tw236 : (Cond.fieldLink "DecimalPatterns$Sub" 52 "DecimalPatterns$Sub" "exponentZeros" "I") ∈ tbl := tbl_in (i := 236) (by decide +kernel) (by decide +kernel)
theorem tw237 : (Cond.fieldLink "DecimalPatterns$Scribe" 157 "DecimalPatterns$Sub" "exponentZeros" "I") ∈ tbl := tbl_in (i := 237) (by decide +kernel) (by decide +kernel)
theorem tw238 : (Cond.fieldLink "DecimalPatterns$PatternMaker" 107 "DecimalPatterns$Sub" "exponentZeros" "I") ∈ tbl := tbl_in (i := 238) (by decide +kernel) (by decide +kernel)
theorem tw239 : (Cond.fieldLink "DecimalPatterns$Sub" 55 "DecimalPatterns$Sub" "exponentPlus" "Z") ∈ tbl := tbl_in (i := 239) (by decide +kernel) (by decide +kernel)
theorem tw240 : (Cond.fieldLink "DecimalPatterns$Scribe" 148 "DecimalPatterns$Sub" "exponentPlus" "Z") ∈ tbl := tbl_in (i := 240) (by decide +kernel) (by decide +kernel)
theorem tw241 : (Cond.fieldLink "DecimalPatterns$PatternMaker" 125 "DecimalPatterns$Sub" "exponentPlus" "Z") ∈ tbl := tbl_in (i := 241) (by decide +kernel) (by decide +kernel)
theorem tw267 : (Cond.fieldLink "DecimalPatterns$PatternMaker" 15 "DecimalPatterns$Pattern" "plus" "LDecimalPatterns$Sub;") ∈ tbl := tbl_in (i := 267) (by decide +kernel) (by decide +kernel)
theorem tw268 : (Cond.fieldLink "DecimalPatterns$Pattern" 10 "DecimalPatterns$Pattern" "plus" "LDecimalPatterns$Sub;") ∈ tbl := tbl_in (i := 268) (by decide +kernel) (by decide +kernel)
theorem tw270 : (Cond.fieldLink "DecimalPatterns$Scribe" 31 "DecimalPatterns$Pattern" "plus" "LDecimalPatterns$Sub;") ∈ tbl := tbl_in (i := 270) (by decide +kernel) (by decide +kernel)
theorem tw271 : (Cond.fieldLink "DecimalPatterns$Finder" 23 "DecimalPatterns$Pattern" "plus" "LDecimalPatterns$Sub;") ∈ tbl := tbl_in (i := 271) (by decide +kernel) (by decide +kernel)
theorem tw272 : (Cond.fieldLink "DecimalPatterns$Pattern" 16 "DecimalPatterns$Pattern" "minus" "LDecimalPatterns$Sub;") ∈ tbl := tbl_in (i := 272) (by decide +kernel) (by decide +kernel)
theorem tw273 : (Cond.fieldLink "DecimalPatterns$PatternMaker" 122 "DecimalPatterns$Pattern" "minus" "LDecimalPatterns$Sub;") ∈ tbl := tbl_in (i := 273) (by decide +kernel) (by decide +kernel)
theorem tw274 : (Cond.fieldLink "DecimalPatterns$Pattern" 22 "DecimalPatterns$Pattern" "hasMinusSub" "Z") ∈ tbl := tbl_in (i := 274) (by decide +kernel) (by decide +kernel)
theorem tw275 : (Cond.fieldLink "DecimalPatterns$PatternMaker" 119 "DecimalPatterns$Pattern" "hasMinusSub" "Z") ∈ tbl := tbl_in (i := 275) (by decide +kernel) (by decide +kernel)
theorem tw289 : (Cond.fieldLink "DecimalPatterns$PatternMaker" 9 "DecimalPatterns$PatternMaker" "goal" "LDecimalPatterns$Pattern;") ∈ tbl := tbl_in (i := 289) (by decide +kernel) (by decide +kernel)
theorem tw290 : (Cond.fieldLink "DecimalPatterns$PatternMaker" 21 "DecimalPatterns$PatternMaker" "sub" "LDecimalPatterns$Sub;") ∈ tbl := tbl_in (i := 290) (by decide +kernel) (by decide +kernel)
theorem tw291 : (Cond.fieldLink "DecimalPatterns$PatternMaker" 53 "DecimalPatterns$PatternMaker" "stage" "I") ∈ tbl := tbl_in (i := 291) (by decide +kernel) (by decide +kernel)
theorem tw292 : (Cond.fieldLink "DecimalPatterns$PatternMaker" 49 "DecimalPatterns$PatternMaker" "quoted" "Z") ∈ tbl := tbl_in (i := 292) (by decide +kernel) (by decide +kernel)
theorem tw293 : (Cond.fieldLink "DecimalPatterns$PatternMaker" 56 "DecimalPatterns$PatternMaker" "quoteEmpty" "Z") ∈ tbl := tbl_in (i := 293) (by decide +kernel) (by decide +kernel)
theorem tw305 : (Cond.fieldLink "DecimalPatterns" 14 "DecimalPatterns" "drafted" "LDecimalPatterns$Row;") ∈ tbl := tbl_in (i := 305) (by decide +kernel) (by decide +kernel)
theorem tw306 : (Cond.fieldLink "DecimalPatterns" 18 "DecimalPatterns" "text" "LDecimalPatterns$Row;") ∈ tbl := tbl_in (i := 306) (by decide +kernel) (by decide +kernel)
theorem tw307 : (Cond.fieldLink "DecimalPatterns" 24 "DecimalPatterns" "symbols" "LDecimalPatterns$Symbols;") ∈ tbl := tbl_in (i := 307) (by decide +kernel) (by decide +kernel)
theorem tw308 : (Cond.fieldLink "DecimalPatterns" 71 "DecimalPatterns" "maker" "LDecimalPatterns$PatternMaker;") ∈ tbl := tbl_in (i := 308) (by decide +kernel) (by decide +kernel)
theorem tw309 : (Cond.fieldLink "DecimalPatterns" 33 "DecimalPatterns" "scribe" "LDecimalPatterns$Scribe;") ∈ tbl := tbl_in (i := 309) (by decide +kernel) (by decide +kernel)
theorem tw310 : (Cond.fieldLink "DecimalPatterns" 42 "DecimalPatterns" "finder" "LDecimalPatterns$Finder;") ∈ tbl := tbl_in (i := 310) (by decide +kernel) (by decide +kernel)
theorem tw311 : (Cond.fieldLink "DecimalPatterns" 49 "DecimalPatterns" "pattern" "LDecimalPatterns$Pattern;") ∈ tbl := tbl_in (i := 311) (by decide +kernel) (by decide +kernel)
theorem tw312 : (Cond.fieldLink "DecimalPatterns" 63 "DecimalPatterns" "spare" "LDecimalPatterns$Pattern;") ∈ tbl := tbl_in (i := 312) (by decide +kernel) (by decide +kernel)
theorem tw313 : (Cond.fieldLink "DecimalPatterns" 132 "DecimalPatterns" "foundSize" "J") ∈ tbl := tbl_in (i := 313) (by decide +kernel) (by decide +kernel)
theorem tw314 : (Cond.fieldLink "DecimalPatterns" 135 "DecimalPatterns" "foundScale" "I") ∈ tbl := tbl_in (i := 314) (by decide +kernel) (by decide +kernel)
theorem tw340 : (Cond.methodLink "DecimalPatterns" 75 ⟨"DecimalPatterns", "isPlain", "(I)Z"⟩) ∈ tbl := tbl_in (i := 340) (by decide +kernel) (by decide +kernel)
theorem tw341 : (Cond.static ⟨"DecimalPatterns", "isPlain", "(I)Z"⟩) ∈ tbl := tbl_in (i := 341) (by decide +kernel) (by decide +kernel)
theorem tw342 : (Cond.code ⟨"DecimalPatterns", "isPlain", "(I)Z"⟩ prog_1_method_16_code 1 (some .boolean)) ∈ tbl := tbl_in (i := 342) (by decide +kernel) (by decide +kernel)
theorem tw343 : (Cond.methodLink "DecimalPatterns" 79 ⟨"DecimalPatterns$Row", "add", "(I)Z"⟩) ∈ tbl := tbl_in (i := 343) (by decide +kernel) (by decide +kernel)
theorem tw344 : (Cond.instanceMethod ⟨"DecimalPatterns$Row", "add", "(I)Z"⟩) ∈ tbl := tbl_in (i := 344) (by decide +kernel) (by decide +kernel)
theorem tw345 : (Cond.selects "DecimalPatterns$Row" ⟨"DecimalPatterns$Row", "add", "(I)Z"⟩ ⟨"DecimalPatterns$Row", "add", "(I)Z"⟩) ∈ tbl := tbl_in (i := 345) (by decide +kernel) (by decide +kernel)
theorem tw346 : (Cond.code ⟨"DecimalPatterns$Row", "add", "(I)Z"⟩ prog_6_method_2_code 2 (some .boolean)) ∈ tbl := tbl_in (i := 346) (by decide +kernel) (by decide +kernel)
theorem tw351 : (Cond.methodLink "DecimalPatterns" 82 ⟨"DecimalPatterns$Row", "clear", "()V"⟩) ∈ tbl := tbl_in (i := 351) (by decide +kernel) (by decide +kernel)
theorem tw352 : (Cond.instanceMethod ⟨"DecimalPatterns$Row", "clear", "()V"⟩) ∈ tbl := tbl_in (i := 352) (by decide +kernel) (by decide +kernel)
theorem tw353 : (Cond.selects "DecimalPatterns$Row" ⟨"DecimalPatterns$Row", "clear", "()V"⟩ ⟨"DecimalPatterns$Row", "clear", "()V"⟩) ∈ tbl := tbl_in (i := 353) (by decide +kernel) (by decide +kernel)
theorem tw354 : (Cond.code ⟨"DecimalPatterns$Row", "clear", "()V"⟩ prog_6_method_3_code 1 (Option.none : Option FieldType)) ∈ tbl := tbl_in (i := 354) (by decide +kernel) (by decide +kernel)
theorem tw359 : (Cond.methodLink "DecimalPatterns" 85 ⟨"DecimalPatterns$PatternMaker", "make", "(LDecimalPatterns$Row;LDecimalPatterns$Pattern;)I"⟩) ∈ tbl := tbl_in (i := 359) (by decide +kernel) (by decide +kernel)
theorem tw360 : (Cond.instanceMethod ⟨"DecimalPatterns$PatternMaker", "make", "(LDecimalPatterns$Row;LDecimalPatterns$Pattern;)I"⟩) ∈ tbl := tbl_in (i := 360) (by decide +kernel) (by decide +kernel)
theorem tw361 : (Cond.selects "DecimalPatterns$PatternMaker" ⟨"DecimalPatterns$PatternMaker", "make", "(LDecimalPatterns$Row;LDecimalPatterns$Pattern;)I"⟩ ⟨"DecimalPatterns$PatternMaker", "make", "(LDecimalPatterns$Row;LDecimalPatterns$Pattern;)I"⟩) ∈ tbl := tbl_in (i := 361) (by decide +kernel) (by decide +kernel)
theorem tw362 : (Cond.code ⟨"DecimalPatterns$PatternMaker", "make", "(LDecimalPatterns$Row;LDecimalPatterns$Pattern;)I"⟩ prog_5_method_2_code 4 (some .int)) ∈ tbl := tbl_in (i := 362) (by decide +kernel) (by decide +kernel)
theorem tw363 : (Cond.methodLink "DecimalPatterns$PatternMaker" 24 ⟨"DecimalPatterns$Pattern", "clear", "()V"⟩) ∈ tbl := tbl_in (i := 363) (by decide +kernel) (by decide +kernel)
theorem tw364 : (Cond.instanceMethod ⟨"DecimalPatterns$Pattern", "clear", "()V"⟩) ∈ tbl := tbl_in (i := 364) (by decide +kernel) (by decide +kernel)
theorem tw365 : (Cond.selects "DecimalPatterns$Pattern" ⟨"DecimalPatterns$Pattern", "clear", "()V"⟩ ⟨"DecimalPatterns$Pattern", "clear", "()V"⟩) ∈ tbl := tbl_in (i := 365) (by decide +kernel) (by decide +kernel)
theorem tw366 : (Cond.code ⟨"DecimalPatterns$Pattern", "clear", "()V"⟩ prog_4_method_2_code 1 (Option.none : Option FieldType)) ∈ tbl := tbl_in (i := 366) (by decide +kernel) (by decide +kernel)
theorem tw367 : (Cond.methodLink "DecimalPatterns$Pattern" 19 ⟨"DecimalPatterns$Sub", "clear", "()V"⟩) ∈ tbl := tbl_in (i := 367) (by decide +kernel) (by decide +kernel)
theorem tw368 : (Cond.instanceMethod ⟨"DecimalPatterns$Sub", "clear", "()V"⟩) ∈ tbl := tbl_in (i := 368) (by decide +kernel) (by decide +kernel)
theorem tw369 : (Cond.selects "DecimalPatterns$Sub" ⟨"DecimalPatterns$Sub", "clear", "()V"⟩ ⟨"DecimalPatterns$Sub", "clear", "()V"⟩) ∈ tbl := tbl_in (i := 369) (by decide +kernel) (by decide +kernel)
theorem tw370 : (Cond.code ⟨"DecimalPatterns$Sub", "clear", "()V"⟩ prog_8_method_2_code 1 (Option.none : Option FieldType)) ∈ tbl := tbl_in (i := 370) (by decide +kernel) (by decide +kernel)
theorem tw371 : (Cond.methodLink "DecimalPatterns$Sub" 23 ⟨"DecimalPatterns$Row", "clear", "()V"⟩) ∈ tbl := tbl_in (i := 371) (by decide +kernel) (by decide +kernel)
theorem tw372 : (Cond.methodLink "DecimalPatterns$PatternMaker" 27 ⟨"DecimalPatterns$PatternMaker", "beginSub", "(LDecimalPatterns$Sub;)V"⟩) ∈ tbl := tbl_in (i := 372) (by decide +kernel) (by decide +kernel)
theorem tw374 : (Cond.instanceMethod ⟨"DecimalPatterns$PatternMaker", "beginSub", "(LDecimalPatterns$Sub;)V"⟩) ∈ tbl := tbl_in (i := 374) (by decide +kernel) (by decide +kernel)
theorem tw375 : (Cond.code ⟨"DecimalPatterns$PatternMaker", "beginSub", "(LDecimalPatterns$Sub;)V"⟩ prog_5_method_3_code 2 (Option.none : Option FieldType)) ∈ tbl := tbl_in (i := 375) (by decide +kernel) (by decide +kernel)
theorem tw376 : (Cond.methodLink "DecimalPatterns$PatternMaker" 37 ⟨"DecimalPatterns$Row", "code", "(I)I"⟩) ∈ tbl := tbl_in (i := 376) (by decide +kernel) (by decide +kernel)
theorem tw377 : (Cond.instanceMethod ⟨"DecimalPatterns$Row", "code", "(I)I"⟩) ∈ tbl := tbl_in (i := 377) (by decide +kernel) (by decide +kernel)
theorem tw378 : (Cond.selects "DecimalPatterns$Row" ⟨"DecimalPatterns$Row", "code", "(I)I"⟩ ⟨"DecimalPatterns$Row", "code", "(I)I"⟩) ∈ tbl := tbl_in (i := 378) (by decide +kernel) (by decide +kernel)
theorem tw379 : (Cond.code ⟨"DecimalPatterns$Row", "code", "(I)I"⟩ prog_6_method_5_code 2 (some .int)) ∈ tbl := tbl_in (i := 379) (by decide +kernel) (by decide +kernel)
theorem tw380 : (Cond.methodLink "DecimalPatterns$Row" 23 ⟨"DecimalPatterns$Row", "has", "(I)Z"⟩) ∈ tbl := tbl_in (i := 380) (by decide +kernel) (by decide +kernel)
theorem tw381 : (Cond.instanceMethod ⟨"DecimalPatterns$Row", "has", "(I)Z"⟩) ∈ tbl := tbl_in (i := 381) (by decide +kernel) (by decide +kernel)
theorem tw382 : (Cond.selects "DecimalPatterns$Row" ⟨"DecimalPatterns$Row", "has", "(I)Z"⟩ ⟨"DecimalPatterns$Row", "has", "(I)Z"⟩) ∈ tbl := tbl_in (i := 382) (by decide +kernel) (by decide +kernel)
theorem tw383 : (Cond.code ⟨"DecimalPatterns$Row", "has", "(I)Z"⟩ prog_6_method_4_code 2 (some .boolean)) ∈ tbl := tbl_in (i := 383) (by decide +kernel) (by decide +kernel)
theorem tw384 : (Cond.methodLink "DecimalPatterns$PatternMaker" 41 ⟨"DecimalPatterns$PatternMaker", "take", "(I)Z"⟩) ∈ tbl := tbl_in (i := 384) (by decide +kernel) (by decide +kernel)
theorem tw386 : (Cond.instanceMethod ⟨"DecimalPatterns$PatternMaker", "take", "(I)Z"⟩) ∈ tbl := tbl_in (i := 386) (by decide +kernel) (by decide +kernel)
theorem tw387 : (Cond.code ⟨"DecimalPatterns$PatternMaker", "take", "(I)Z"⟩ prog_5_method_4_code 2 (some .boolean)) ∈ tbl := tbl_in (i := 387) (by decide +kernel) (by decide +kernel)
theorem tw388 : (Cond.methodLink "DecimalPatterns$PatternMaker" 59 ⟨"DecimalPatterns$PatternMaker", "takeQuoted", "(I)V"⟩) ∈ tbl := tbl_in (i := 388) (by decide +kernel) (by decide +kernel)
theorem tw390 : (Cond.instanceMethod ⟨"DecimalPatterns$PatternMaker", "takeQuoted", "(I)V"⟩) ∈ tbl := tbl_in (i := 390) (by decide +kernel) (by decide +kernel)
theorem tw391 : (Cond.code ⟨"DecimalPatterns$PatternMaker", "takeQuoted", "(I)V"⟩ prog_5_method_18_code 2 (Option.none : Option FieldType)) ∈ tbl := tbl_in (i := 391) (by decide +kernel) (by decide +kernel)
theorem tw392 : (Cond.methodLink "DecimalPatterns$PatternMaker" 131 ⟨"DecimalPatterns$PatternMaker", "openAffix", "()LDecimalPatterns$Row;"⟩) ∈ tbl := tbl_in (i := 392) (by decide +kernel) (by decide +kernel)
theorem tw394 : (Cond.instanceMethod ⟨"DecimalPatterns$PatternMaker", "openAffix", "()LDecimalPatterns$Row;"⟩) ∈ tbl := tbl_in (i := 394) (by decide +kernel) (by decide +kernel)
theorem tw395 : (Cond.code ⟨"DecimalPatterns$PatternMaker", "openAffix", "()LDecimalPatterns$Row;"⟩ prog_5_method_17_code 1 (some (.object "DecimalPatterns$Row"))) ∈ tbl := tbl_in (i := 395) (by decide +kernel) (by decide +kernel)
theorem tw396 : (Cond.methodLink "DecimalPatterns$PatternMaker" 135 ⟨"DecimalPatterns$Row", "add", "(I)Z"⟩) ∈ tbl := tbl_in (i := 396) (by decide +kernel) (by decide +kernel)
theorem tw397 : (Cond.methodLink "DecimalPatterns$PatternMaker" 63 ⟨"DecimalPatterns$PatternMaker", "takeHash", "()Z"⟩) ∈ tbl := tbl_in (i := 397) (by decide +kernel) (by decide +kernel)
theorem tw399 : (Cond.instanceMethod ⟨"DecimalPatterns$PatternMaker", "takeHash", "()Z"⟩) ∈ tbl := tbl_in (i := 399) (by decide +kernel) (by decide +kernel)
theorem tw400 : (Cond.code ⟨"DecimalPatterns$PatternMaker", "takeHash", "()Z"⟩ prog_5_method_6_code 1 (some .boolean)) ∈ tbl := tbl_in (i := 400) (by decide +kernel) (by decide +kernel)
theorem tw401 : (Cond.methodLink "DecimalPatterns$PatternMaker" 92 ⟨"DecimalPatterns$PatternMaker", "inInteger", "()Z"⟩) ∈ tbl := tbl_in (i := 401) (by decide +kernel) (by decide +kernel)
theorem tw403 : (Cond.instanceMethod ⟨"DecimalPatterns$PatternMaker", "inInteger", "()Z"⟩) ∈ tbl := tbl_in (i := 403) (by decide +kernel) (by decide +kernel)
theorem tw404 : (Cond.code ⟨"DecimalPatterns$PatternMaker", "inInteger", "()Z"⟩ prog_5_method_8_code 1 (some .boolean)) ∈ tbl := tbl_in (i := 404) (by decide +kernel) (by decide +kernel)
theorem tw405 : (Cond.methodLink "DecimalPatterns$PatternMaker" 66 ⟨"DecimalPatterns$PatternMaker", "takeZero", "()Z"⟩) ∈ tbl := tbl_in (i := 405) (by decide +kernel) (by decide +kernel)
theorem tw407 : (Cond.instanceMethod ⟨"DecimalPatterns$PatternMaker", "takeZero", "()Z"⟩) ∈ tbl := tbl_in (i := 407) (by decide +kernel) (by decide +kernel)
theorem tw408 : (Cond.code ⟨"DecimalPatterns$PatternMaker", "takeZero", "()Z"⟩ prog_5_method_7_code 1 (some .boolean)) ∈ tbl := tbl_in (i := 408) (by decide +kernel) (by decide +kernel)
theorem tw409 : (Cond.methodLink "DecimalPatterns$PatternMaker" 104 ⟨"DecimalPatterns$PatternMaker", "takeFractionZero", "()Z"⟩) ∈ tbl := tbl_in (i := 409) (by decide +kernel) (by decide +kernel)
theorem tw411 : (Cond.instanceMethod ⟨"DecimalPatterns$PatternMaker", "takeFractionZero", "()Z"⟩) ∈ tbl := tbl_in (i := 411) (by decide +kernel) (by decide +kernel)
theorem tw412 : (Cond.code ⟨"DecimalPatterns$PatternMaker", "takeFractionZero", "()Z"⟩ prog_5_method_9_code 1 (some .boolean)) ∈ tbl := tbl_in (i := 412) (by decide +kernel) (by decide +kernel)
theorem tw413 : (Cond.methodLink "DecimalPatterns$PatternMaker" 69 ⟨"DecimalPatterns$PatternMaker", "takeComma", "()Z"⟩) ∈ tbl := tbl_in (i := 413) (by decide +kernel) (by decide +kernel)
theorem tw415 : (Cond.instanceMethod ⟨"DecimalPatterns$PatternMaker", "takeComma", "()Z"⟩) ∈ tbl := tbl_in (i := 415) (by decide +kernel) (by decide +kernel)
theorem tw416 : (Cond.code ⟨"DecimalPatterns$PatternMaker", "takeComma", "()Z"⟩ prog_5_method_10_code 1 (some .boolean)) ∈ tbl := tbl_in (i := 416) (by decide +kernel) (by decide +kernel)
theorem tw417 : (Cond.methodLink "DecimalPatterns$PatternMaker" 72 ⟨"DecimalPatterns$PatternMaker", "takePoint", "()Z"⟩) ∈ tbl := tbl_in (i := 417) (by decide +kernel) (by decide +kernel)
theorem tw419 : (Cond.instanceMethod ⟨"DecimalPatterns$PatternMaker", "takePoint", "()Z"⟩) ∈ tbl := tbl_in (i := 419) (by decide +kernel) (by decide +kernel)
theorem tw420 : (Cond.code ⟨"DecimalPatterns$PatternMaker", "takePoint", "()Z"⟩ prog_5_method_11_code 1 (some .boolean)) ∈ tbl := tbl_in (i := 420) (by decide +kernel) (by decide +kernel)
theorem tw421 : (Cond.methodLink "DecimalPatterns$PatternMaker" 75 ⟨"DecimalPatterns$PatternMaker", "takeE", "()Z"⟩) ∈ tbl := tbl_in (i := 421) (by decide +kernel) (by decide +kernel)
theorem tw423 : (Cond.instanceMethod ⟨"DecimalPatterns$PatternMaker", "takeE", "()Z"⟩) ∈ tbl := tbl_in (i := 423) (by decide +kernel) (by decide +kernel)
theorem tw424 : (Cond.code ⟨"DecimalPatterns$PatternMaker", "takeE", "()Z"⟩ prog_5_method_12_code 2 (some .boolean)) ∈ tbl := tbl_in (i := 424) (by decide +kernel) (by decide +kernel)
theorem tw425 : (Cond.methodLink "DecimalPatterns$PatternMaker" 78 ⟨"DecimalPatterns$PatternMaker", "takeSemicolon", "()Z"⟩) ∈ tbl := tbl_in (i := 425) (by decide +kernel) (by decide +kernel)
theorem tw427 : (Cond.instanceMethod ⟨"DecimalPatterns$PatternMaker", "takeSemicolon", "()Z"⟩) ∈ tbl := tbl_in (i := 427) (by decide +kernel) (by decide +kernel)
theorem tw428 : (Cond.code ⟨"DecimalPatterns$PatternMaker", "takeSemicolon", "()Z"⟩ prog_5_method_13_code 1 (some .boolean)) ∈ tbl := tbl_in (i := 428) (by decide +kernel) (by decide +kernel)
theorem tw429 : (Cond.methodLink "DecimalPatterns$PatternMaker" 45 ⟨"DecimalPatterns$PatternMaker", "numberEnded", "()Z"⟩) ∈ tbl := tbl_in (i := 429) (by decide +kernel) (by decide +kernel)
theorem tw431 : (Cond.instanceMethod ⟨"DecimalPatterns$PatternMaker", "numberEnded", "()Z"⟩) ∈ tbl := tbl_in (i := 431) (by decide +kernel) (by decide +kernel)
theorem tw432 : (Cond.code ⟨"DecimalPatterns$PatternMaker", "numberEnded", "()Z"⟩ prog_5_method_5_code 1 (some .boolean)) ∈ tbl := tbl_in (i := 432) (by decide +kernel) (by decide +kernel)
theorem tw433 : (Cond.methodLink "DecimalPatterns$PatternMaker" 81 ⟨"DecimalPatterns$PatternMaker", "takePlus", "()Z"⟩) ∈ tbl := tbl_in (i := 433) (by decide +kernel) (by decide +kernel)
theorem tw435 : (Cond.instanceMethod ⟨"DecimalPatterns$PatternMaker", "takePlus", "()Z"⟩) ∈ tbl := tbl_in (i := 435) (by decide +kernel) (by decide +kernel)
theorem tw436 : (Cond.code ⟨"DecimalPatterns$PatternMaker", "takePlus", "()Z"⟩ prog_5_method_14_code 1 (some .boolean)) ∈ tbl := tbl_in (i := 436) (by decide +kernel) (by decide +kernel)
theorem tw437 : (Cond.methodLink "DecimalPatterns$PatternMaker" 84 ⟨"DecimalPatterns$PatternMaker", "takeAffix", "(I)Z"⟩) ∈ tbl := tbl_in (i := 437) (by decide +kernel) (by decide +kernel)
theorem tw439 : (Cond.instanceMethod ⟨"DecimalPatterns$PatternMaker", "takeAffix", "(I)Z"⟩) ∈ tbl := tbl_in (i := 439) (by decide +kernel) (by decide +kernel)
theorem tw440 : (Cond.code ⟨"DecimalPatterns$PatternMaker", "takeAffix", "(I)Z"⟩ prog_5_method_15_code 2 (some .boolean)) ∈ tbl := tbl_in (i := 440) (by decide +kernel) (by decide +kernel)
theorem tw441 : (Cond.methodLink "DecimalPatterns$PatternMaker" 128 ⟨"DecimalPatterns$PatternMaker", "enterAffix", "()Z"⟩) ∈ tbl := tbl_in (i := 441) (by decide +kernel) (by decide +kernel)
theorem tw443 : (Cond.instanceMethod ⟨"DecimalPatterns$PatternMaker", "enterAffix", "()Z"⟩) ∈ tbl := tbl_in (i := 443) (by decide +kernel) (by decide +kernel)
theorem tw444 : (Cond.code ⟨"DecimalPatterns$PatternMaker", "enterAffix", "()Z"⟩ prog_5_method_16_code 1 (some .boolean)) ∈ tbl := tbl_in (i := 444) (by decide +kernel) (by decide +kernel)
theorem tw449 : (Cond.methodLink "DecimalPatterns" 89 ⟨"DecimalPatterns$Symbols", "change", "(II)Z"⟩) ∈ tbl := tbl_in (i := 449) (by decide +kernel) (by decide +kernel)
theorem tw450 : (Cond.instanceMethod ⟨"DecimalPatterns$Symbols", "change", "(II)Z"⟩) ∈ tbl := tbl_in (i := 450) (by decide +kernel) (by decide +kernel)
theorem tw451 : (Cond.selects "DecimalPatterns$Symbols" ⟨"DecimalPatterns$Symbols", "change", "(II)Z"⟩ ⟨"DecimalPatterns$Symbols", "change", "(II)Z"⟩) ∈ tbl := tbl_in (i := 451) (by decide +kernel) (by decide +kernel)
theorem tw452 : (Cond.code ⟨"DecimalPatterns$Symbols", "change", "(II)Z"⟩ prog_9_method_5_code 4 (some .boolean)) ∈ tbl := tbl_in (i := 452) (by decide +kernel) (by decide +kernel)
theorem tw453 : (Cond.methodLink "DecimalPatterns$Symbols" 21 ⟨"DecimalPatterns$Symbols", "areSound", "()Z"⟩) ∈ tbl := tbl_in (i := 453) (by decide +kernel) (by decide +kernel)
theorem tw455 : (Cond.instanceMethod ⟨"DecimalPatterns$Symbols", "areSound", "()Z"⟩) ∈ tbl := tbl_in (i := 455) (by decide +kernel) (by decide +kernel)
theorem tw456 : (Cond.code ⟨"DecimalPatterns$Symbols", "areSound", "()Z"⟩ prog_9_method_6_code 3 (some .boolean)) ∈ tbl := tbl_in (i := 456) (by decide +kernel) (by decide +kernel)
theorem tw457 : (Cond.methodLink "DecimalPatterns$Symbols" 25 ⟨"DecimalPatterns$Symbols", "digitCode", "(I)I"⟩) ∈ tbl := tbl_in (i := 457) (by decide +kernel) (by decide +kernel)
theorem tw458 : (Cond.instanceMethod ⟨"DecimalPatterns$Symbols", "digitCode", "(I)I"⟩) ∈ tbl := tbl_in (i := 458) (by decide +kernel) (by decide +kernel)
theorem tw459 : (Cond.selects "DecimalPatterns$Symbols" ⟨"DecimalPatterns$Symbols", "digitCode", "(I)I"⟩ ⟨"DecimalPatterns$Symbols", "digitCode", "(I)I"⟩) ∈ tbl := tbl_in (i := 459) (by decide +kernel) (by decide +kernel)
theorem tw460 : (Cond.code ⟨"DecimalPatterns$Symbols", "digitCode", "(I)I"⟩ prog_9_method_3_code 2 (some .int)) ∈ tbl := tbl_in (i := 460) (by decide +kernel) (by decide +kernel)
theorem tw462 : (Cond.methodLink "DecimalPatterns$Symbols" 33 ⟨"DecimalPatterns$Symbols", "digitOf", "(I)I"⟩) ∈ tbl := tbl_in (i := 462) (by decide +kernel) (by decide +kernel)
theorem tw463 : (Cond.instanceMethod ⟨"DecimalPatterns$Symbols", "digitOf", "(I)I"⟩) ∈ tbl := tbl_in (i := 463) (by decide +kernel) (by decide +kernel)
theorem tw464 : (Cond.selects "DecimalPatterns$Symbols" ⟨"DecimalPatterns$Symbols", "digitOf", "(I)I"⟩ ⟨"DecimalPatterns$Symbols", "digitOf", "(I)I"⟩) ∈ tbl := tbl_in (i := 464) (by decide +kernel) (by decide +kernel)
theorem tw465 : (Cond.code ⟨"DecimalPatterns$Symbols", "digitOf", "(I)I"⟩ prog_9_method_4_code 3 (some .int)) ∈ tbl := tbl_in (i := 465) (by decide +kernel) (by decide +kernel)
theorem tw466 : (Cond.methodLink "DecimalPatterns$Symbols" 36 ⟨"DecimalPatterns$Symbols", "standsBefore", "(II)Z"⟩) ∈ tbl := tbl_in (i := 466) (by decide +kernel) (by decide +kernel)
theorem tw468 : (Cond.instanceMethod ⟨"DecimalPatterns$Symbols", "standsBefore", "(II)Z"⟩) ∈ tbl := tbl_in (i := 468) (by decide +kernel) (by decide +kernel)
theorem tw469 : (Cond.code ⟨"DecimalPatterns$Symbols", "standsBefore", "(II)Z"⟩ prog_9_method_7_code 4 (some .boolean)) ∈ tbl := tbl_in (i := 469) (by decide +kernel) (by decide +kernel)
theorem tw478 : (Cond.methodLink "DecimalPatterns" 96 ⟨"DecimalPatterns$Scribe", "compose", "(LDecimalPatterns$Pattern;ZJII)Z"⟩) ∈ tbl := tbl_in (i := 478) (by decide +kernel) (by decide +kernel)
theorem tw479 : (Cond.instanceMethod ⟨"DecimalPatterns$Scribe", "compose", "(LDecimalPatterns$Pattern;ZJII)Z"⟩) ∈ tbl := tbl_in (i := 479) (by decide +kernel) (by decide +kernel)
theorem tw480 : (Cond.selects "DecimalPatterns$Scribe" ⟨"DecimalPatterns$Scribe", "compose", "(LDecimalPatterns$Pattern;ZJII)Z"⟩ ⟨"DecimalPatterns$Scribe", "compose", "(LDecimalPatterns$Pattern;ZJII)Z"⟩) ∈ tbl := tbl_in (i := 480) (by decide +kernel) (by decide +kernel)
theorem tw481 : (Cond.code ⟨"DecimalPatterns$Scribe", "compose", "(LDecimalPatterns$Pattern;ZJII)Z"⟩ prog_7_method_2_code 10 (some .boolean)) ∈ tbl := tbl_in (i := 481) (by decide +kernel) (by decide +kernel)
theorem tw482 : (Cond.methodLink "DecimalPatterns$Scribe" 43 ⟨"DecimalPatterns$Amount", "fill", "(JIZ)V"⟩) ∈ tbl := tbl_in (i := 482) (by decide +kernel) (by decide +kernel)
theorem tw483 : (Cond.instanceMethod ⟨"DecimalPatterns$Amount", "fill", "(JIZ)V"⟩) ∈ tbl := tbl_in (i := 483) (by decide +kernel) (by decide +kernel)
theorem tw484 : (Cond.selects "DecimalPatterns$Amount" ⟨"DecimalPatterns$Amount", "fill", "(JIZ)V"⟩ ⟨"DecimalPatterns$Amount", "fill", "(JIZ)V"⟩) ∈ tbl := tbl_in (i := 484) (by decide +kernel) (by decide +kernel)
theorem tw485 : (Cond.code ⟨"DecimalPatterns$Amount", "fill", "(JIZ)V"⟩ prog_2_method_2_code 9 (Option.none : Option FieldType)) ∈ tbl := tbl_in (i := 485) (by decide +kernel) (by decide +kernel)
theorem tw486 : (Cond.methodLink "DecimalPatterns$Amount" 15 ⟨"DecimalPatterns$Amount", "clearBelow", "(I)V"⟩) ∈ tbl := tbl_in (i := 486) (by decide +kernel) (by decide +kernel)
theorem tw488 : (Cond.instanceMethod ⟨"DecimalPatterns$Amount", "clearBelow", "(I)V"⟩) ∈ tbl := tbl_in (i := 488) (by decide +kernel) (by decide +kernel)
theorem tw489 : (Cond.code ⟨"DecimalPatterns$Amount", "clearBelow", "(I)V"⟩ prog_2_method_12_code 3 (Option.none : Option FieldType)) ∈ tbl := tbl_in (i := 489) (by decide +kernel) (by decide +kernel)
theorem tw490 : (Cond.constantLong "DecimalPatterns$Amount" 19 10) ∈ tbl := tbl_in (i := 490) (by decide +kernel) (by decide +kernel)
theorem tw491 : (Cond.methodLink "DecimalPatterns$Amount" 21 ⟨"DecimalPatterns$Amount", "put", "(II)V"⟩) ∈ tbl := tbl_in (i := 491) (by decide +kernel) (by decide +kernel)
theorem tw493 : (Cond.instanceMethod ⟨"DecimalPatterns$Amount", "put", "(II)V"⟩) ∈ tbl := tbl_in (i := 493) (by decide +kernel) (by decide +kernel)
theorem tw494 : (Cond.code ⟨"DecimalPatterns$Amount", "put", "(II)V"⟩ prog_2_method_4_code 3 (Option.none : Option FieldType)) ∈ tbl := tbl_in (i := 494) (by decide +kernel) (by decide +kernel)
theorem tw495 : (Cond.methodLink "DecimalPatterns$Scribe" 47 ⟨"DecimalPatterns$Scribe", "roundingPower", "(LDecimalPatterns$Sub;)I"⟩) ∈ tbl := tbl_in (i := 495) (by decide +kernel) (by decide +kernel)
theorem tw497 : (Cond.instanceMethod ⟨"DecimalPatterns$Scribe", "roundingPower", "(LDecimalPatterns$Sub;)I"⟩) ∈ tbl := tbl_in (i := 497) (by decide +kernel) (by decide +kernel)
theorem tw498 : (Cond.code ⟨"DecimalPatterns$Scribe", "roundingPower", "(LDecimalPatterns$Sub;)I"⟩ prog_7_method_3_code 2 (some .int)) ∈ tbl := tbl_in (i := 498) (by decide +kernel) (by decide +kernel)
theorem tw499 : (Cond.methodLink "DecimalPatterns$Scribe" 83 ⟨"DecimalPatterns$Sub", "hasExponent", "()Z"⟩) ∈ tbl := tbl_in (i := 499) (by decide +kernel) (by decide +kernel)
theorem tw500 : (Cond.instanceMethod ⟨"DecimalPatterns$Sub", "hasExponent", "()Z"⟩) ∈ tbl := tbl_in (i := 500) (by decide +kernel) (by decide +kernel)
theorem tw501 : (Cond.selects "DecimalPatterns$Sub" ⟨"DecimalPatterns$Sub", "hasExponent", "()Z"⟩ ⟨"DecimalPatterns$Sub", "hasExponent", "()Z"⟩) ∈ tbl := tbl_in (i := 501) (by decide +kernel) (by decide +kernel)
theorem tw502 : (Cond.code ⟨"DecimalPatterns$Sub", "hasExponent", "()Z"⟩ prog_8_method_3_code 1 (some .boolean)) ∈ tbl := tbl_in (i := 502) (by decide +kernel) (by decide +kernel)
theorem tw503 : (Cond.methodLink "DecimalPatterns$Scribe" 97 ⟨"DecimalPatterns$Amount", "firstPower", "()I"⟩) ∈ tbl := tbl_in (i := 503) (by decide +kernel) (by decide +kernel)
theorem tw504 : (Cond.instanceMethod ⟨"DecimalPatterns$Amount", "firstPower", "()I"⟩) ∈ tbl := tbl_in (i := 504) (by decide +kernel) (by decide +kernel)
theorem tw505 : (Cond.selects "DecimalPatterns$Amount" ⟨"DecimalPatterns$Amount", "firstPower", "()I"⟩ ⟨"DecimalPatterns$Amount", "firstPower", "()I"⟩) ∈ tbl := tbl_in (i := 505) (by decide +kernel) (by decide +kernel)
theorem tw506 : (Cond.code ⟨"DecimalPatterns$Amount", "firstPower", "()I"⟩ prog_2_method_6_code 2 (some .int)) ∈ tbl := tbl_in (i := 506) (by decide +kernel) (by decide +kernel)
theorem tw507 : (Cond.methodLink "DecimalPatterns$Amount" 29 ⟨"DecimalPatterns$Amount", "digit", "(I)I"⟩) ∈ tbl := tbl_in (i := 507) (by decide +kernel) (by decide +kernel)
theorem tw508 : (Cond.instanceMethod ⟨"DecimalPatterns$Amount", "digit", "(I)I"⟩) ∈ tbl := tbl_in (i := 508) (by decide +kernel) (by decide +kernel)
theorem tw509 : (Cond.selects "DecimalPatterns$Amount" ⟨"DecimalPatterns$Amount", "digit", "(I)I"⟩ ⟨"DecimalPatterns$Amount", "digit", "(I)I"⟩) ∈ tbl := tbl_in (i := 509) (by decide +kernel) (by decide +kernel)
theorem tw510 : (Cond.code ⟨"DecimalPatterns$Amount", "digit", "(I)I"⟩ prog_2_method_3_code 2 (some .int)) ∈ tbl := tbl_in (i := 510) (by decide +kernel) (by decide +kernel)
theorem tw511 : (Cond.methodLink "DecimalPatterns$Scribe" 51 ⟨"DecimalPatterns$Amount", "roundTo", "(IIZ)Z"⟩) ∈ tbl := tbl_in (i := 511) (by decide +kernel) (by decide +kernel)
theorem tw512 : (Cond.instanceMethod ⟨"DecimalPatterns$Amount", "roundTo", "(IIZ)Z"⟩) ∈ tbl := tbl_in (i := 512) (by decide +kernel) (by decide +kernel)
theorem tw513 : (Cond.selects "DecimalPatterns$Amount" ⟨"DecimalPatterns$Amount", "roundTo", "(IIZ)Z"⟩ ⟨"DecimalPatterns$Amount", "roundTo", "(IIZ)Z"⟩) ∈ tbl := tbl_in (i := 513) (by decide +kernel) (by decide +kernel)
theorem tw514 : (Cond.code ⟨"DecimalPatterns$Amount", "roundTo", "(IIZ)Z"⟩ prog_2_method_8_code 5 (some .boolean)) ∈ tbl := tbl_in (i := 514) (by decide +kernel) (by decide +kernel)
theorem tw515 : (Cond.methodLink "DecimalPatterns$Amount" 25 ⟨"DecimalPatterns$Amount", "anyBelow", "(I)Z"⟩) ∈ tbl := tbl_in (i := 515) (by decide +kernel) (by decide +kernel)
theorem tw517 : (Cond.instanceMethod ⟨"DecimalPatterns$Amount", "anyBelow", "(I)Z"⟩) ∈ tbl := tbl_in (i := 517) (by decide +kernel) (by decide +kernel)
theorem tw518 : (Cond.code ⟨"DecimalPatterns$Amount", "anyBelow", "(I)Z"⟩ prog_2_method_11_code 3 (some .boolean)) ∈ tbl := tbl_in (i := 518) (by decide +kernel) (by decide +kernel)
theorem tw519 : (Cond.methodLink "DecimalPatterns$Amount" 33 ⟨"DecimalPatterns$Amount", "goesUp", "(IIZ)Z"⟩) ∈ tbl := tbl_in (i := 519) (by decide +kernel) (by decide +kernel)
theorem tw521 : (Cond.instanceMethod ⟨"DecimalPatterns$Amount", "goesUp", "(IIZ)Z"⟩) ∈ tbl := tbl_in (i := 521) (by decide +kernel) (by decide +kernel)
theorem tw522 : (Cond.code ⟨"DecimalPatterns$Amount", "goesUp", "(IIZ)Z"⟩ prog_2_method_9_code 4 (some .boolean)) ∈ tbl := tbl_in (i := 522) (by decide +kernel) (by decide +kernel)
theorem tw523 : (Cond.methodLink "DecimalPatterns$Amount" 40 ⟨"DecimalPatterns$Amount", "againstHalf", "(I)I"⟩) ∈ tbl := tbl_in (i := 523) (by decide +kernel) (by decide +kernel)
theorem tw525 : (Cond.instanceMethod ⟨"DecimalPatterns$Amount", "againstHalf", "(I)I"⟩) ∈ tbl := tbl_in (i := 525) (by decide +kernel) (by decide +kernel)
theorem tw526 : (Cond.code ⟨"DecimalPatterns$Amount", "againstHalf", "(I)I"⟩ prog_2_method_10_code 3 (some .int)) ∈ tbl := tbl_in (i := 526) (by decide +kernel) (by decide +kernel)
theorem tw527 : (Cond.methodLink "DecimalPatterns$Amount" 37 ⟨"DecimalPatterns$Amount", "addOneAt", "(I)V"⟩) ∈ tbl := tbl_in (i := 527) (by decide +kernel) (by decide +kernel)
theorem tw529 : (Cond.instanceMethod ⟨"DecimalPatterns$Amount", "addOneAt", "(I)V"⟩) ∈ tbl := tbl_in (i := 529) (by decide +kernel) (by decide +kernel)
theorem tw530 : (Cond.code ⟨"DecimalPatterns$Amount", "addOneAt", "(I)V"⟩ prog_2_method_13_code 3 (Option.none : Option FieldType)) ∈ tbl := tbl_in (i := 530) (by decide +kernel) (by decide +kernel)
theorem tw531 : (Cond.methodLink "DecimalPatterns$Scribe" 55 ⟨"DecimalPatterns$Pattern", "affixesFor", "(Z)LDecimalPatterns$Sub;"⟩) ∈ tbl := tbl_in (i := 531) (by decide +kernel) (by decide +kernel)
theorem tw532 : (Cond.instanceMethod ⟨"DecimalPatterns$Pattern", "affixesFor", "(Z)LDecimalPatterns$Sub;"⟩) ∈ tbl := tbl_in (i := 532) (by decide +kernel) (by decide +kernel)
theorem tw533 : (Cond.selects "DecimalPatterns$Pattern" ⟨"DecimalPatterns$Pattern", "affixesFor", "(Z)LDecimalPatterns$Sub;"⟩ ⟨"DecimalPatterns$Pattern", "affixesFor", "(Z)LDecimalPatterns$Sub;"⟩) ∈ tbl := tbl_in (i := 533) (by decide +kernel) (by decide +kernel)
theorem tw534 : (Cond.code ⟨"DecimalPatterns$Pattern", "affixesFor", "(Z)LDecimalPatterns$Sub;"⟩ prog_4_method_3_code 2 (some (.object "DecimalPatterns$Sub"))) ∈ tbl := tbl_in (i := 534) (by decide +kernel) (by decide +kernel)
theorem tw535 : (Cond.methodLink "DecimalPatterns$Scribe" 59 ⟨"DecimalPatterns$Row", "clear", "()V"⟩) ∈ tbl := tbl_in (i := 535) (by decide +kernel) (by decide +kernel)
theorem tw536 : (Cond.methodLink "DecimalPatterns$Scribe" 62 ⟨"DecimalPatterns$Pattern", "needsMinus", "(Z)Z"⟩) ∈ tbl := tbl_in (i := 536) (by decide +kernel) (by decide +kernel)
theorem tw537 : (Cond.instanceMethod ⟨"DecimalPatterns$Pattern", "needsMinus", "(Z)Z"⟩) ∈ tbl := tbl_in (i := 537) (by decide +kernel) (by decide +kernel)
theorem tw538 : (Cond.selects "DecimalPatterns$Pattern" ⟨"DecimalPatterns$Pattern", "needsMinus", "(Z)Z"⟩ ⟨"DecimalPatterns$Pattern", "needsMinus", "(Z)Z"⟩) ∈ tbl := tbl_in (i := 538) (by decide +kernel) (by decide +kernel)
theorem tw539 : (Cond.code ⟨"DecimalPatterns$Pattern", "needsMinus", "(Z)Z"⟩ prog_4_method_4_code 2 (some .boolean)) ∈ tbl := tbl_in (i := 539) (by decide +kernel) (by decide +kernel)
theorem tw540 : (Cond.methodLink "DecimalPatterns$Scribe" 66 ⟨"DecimalPatterns$Scribe", "putSymbol", "(I)V"⟩) ∈ tbl := tbl_in (i := 540) (by decide +kernel) (by decide +kernel)
theorem tw542 : (Cond.instanceMethod ⟨"DecimalPatterns$Scribe", "putSymbol", "(I)V"⟩) ∈ tbl := tbl_in (i := 542) (by decide +kernel) (by decide +kernel)
theorem tw543 : (Cond.code ⟨"DecimalPatterns$Scribe", "putSymbol", "(I)V"⟩ prog_7_method_11_code 2 (Option.none : Option FieldType)) ∈ tbl := tbl_in (i := 543) (by decide +kernel) (by decide +kernel)
theorem tw544 : (Cond.methodLink "DecimalPatterns$Scribe" 172 ⟨"DecimalPatterns$Symbols", "code", "(I)I"⟩) ∈ tbl := tbl_in (i := 544) (by decide +kernel) (by decide +kernel)
theorem tw545 : (Cond.instanceMethod ⟨"DecimalPatterns$Symbols", "code", "(I)I"⟩) ∈ tbl := tbl_in (i := 545) (by decide +kernel) (by decide +kernel)
theorem tw546 : (Cond.selects "DecimalPatterns$Symbols" ⟨"DecimalPatterns$Symbols", "code", "(I)I"⟩ ⟨"DecimalPatterns$Symbols", "code", "(I)I"⟩) ∈ tbl := tbl_in (i := 546) (by decide +kernel) (by decide +kernel)
theorem tw547 : (Cond.code ⟨"DecimalPatterns$Symbols", "code", "(I)I"⟩ prog_9_method_2_code 2 (some .int)) ∈ tbl := tbl_in (i := 547) (by decide +kernel) (by decide +kernel)
theorem tw548 : (Cond.methodLink "DecimalPatterns$Scribe" 151 ⟨"DecimalPatterns$Row", "add", "(I)Z"⟩) ∈ tbl := tbl_in (i := 548) (by decide +kernel) (by decide +kernel)
theorem tw549 : (Cond.methodLink "DecimalPatterns$Scribe" 72 ⟨"DecimalPatterns$Scribe", "putAffix", "(LDecimalPatterns$Row;)V"⟩) ∈ tbl := tbl_in (i := 549) (by decide +kernel) (by decide +kernel)
theorem tw551 : (Cond.instanceMethod ⟨"DecimalPatterns$Scribe", "putAffix", "(LDecimalPatterns$Row;)V"⟩) ∈ tbl := tbl_in (i := 551) (by decide +kernel) (by decide +kernel)
theorem tw552 : (Cond.code ⟨"DecimalPatterns$Scribe", "putAffix", "(LDecimalPatterns$Row;)V"⟩ prog_7_method_10_code 4 (Option.none : Option FieldType)) ∈ tbl := tbl_in (i := 552) (by decide +kernel) (by decide +kernel)
theorem tw553 : (Cond.methodLink "DecimalPatterns$Scribe" 169 ⟨"DecimalPatterns$Row", "code", "(I)I"⟩) ∈ tbl := tbl_in (i := 553) (by decide +kernel) (by decide +kernel)
theorem tw554 : (Cond.methodLink "DecimalPatterns$Scribe" 76 ⟨"DecimalPatterns$Scribe", "exponentFor", "(LDecimalPatterns$Sub;)I"⟩) ∈ tbl := tbl_in (i := 554) (by decide +kernel) (by decide +kernel)
theorem tw556 : (Cond.instanceMethod ⟨"DecimalPatterns$Scribe", "exponentFor", "(LDecimalPatterns$Sub;)I"⟩) ∈ tbl := tbl_in (i := 556) (by decide +kernel) (by decide +kernel)
theorem tw557 : (Cond.code ⟨"DecimalPatterns$Scribe", "exponentFor", "(LDecimalPatterns$Sub;)I"⟩ prog_7_method_4_code 3 (some .int)) ∈ tbl := tbl_in (i := 557) (by decide +kernel) (by decide +kernel)
theorem tw558 : (Cond.methodLink "DecimalPatterns$Scribe" 104 ⟨"DecimalPatterns$Amount", "isZero", "()Z"⟩) ∈ tbl := tbl_in (i := 558) (by decide +kernel) (by decide +kernel)
theorem tw559 : (Cond.instanceMethod ⟨"DecimalPatterns$Amount", "isZero", "()Z"⟩) ∈ tbl := tbl_in (i := 559) (by decide +kernel) (by decide +kernel)
theorem tw560 : (Cond.selects "DecimalPatterns$Amount" ⟨"DecimalPatterns$Amount", "isZero", "()Z"⟩ ⟨"DecimalPatterns$Amount", "isZero", "()Z"⟩) ∈ tbl := tbl_in (i := 560) (by decide +kernel) (by decide +kernel)
theorem tw561 : (Cond.code ⟨"DecimalPatterns$Amount", "isZero", "()Z"⟩ prog_2_method_5_code 1 (some .boolean)) ∈ tbl := tbl_in (i := 561) (by decide +kernel) (by decide +kernel)
theorem tw562 : (Cond.methodLink "DecimalPatterns$Scribe" 110 ⟨"java/lang/Math", "floorDiv", "(II)I"⟩) ∈ tbl := tbl_in (i := 562) (by decide +kernel) (by decide +kernel)
theorem tw563 : (Cond.static ⟨"java/lang/Math", "floorDiv", "(II)I"⟩) ∈ tbl := tbl_in (i := 563) (by decide +kernel) (by decide +kernel)
theorem tw564 : (Cond.code ⟨"java/lang/Math", "floorDiv", "(II)I"⟩ prog_12_method_47_code 3 (some .int)) ∈ tbl := tbl_in (i := 564) (by decide +kernel) (by decide +kernel)
theorem tw565 : (Cond.methodLink "DecimalPatterns$Scribe" 79 ⟨"DecimalPatterns$Scribe", "putDigits", "(LDecimalPatterns$Sub;I)V"⟩) ∈ tbl := tbl_in (i := 565) (by decide +kernel) (by decide +kernel)
theorem tw567 : (Cond.instanceMethod ⟨"DecimalPatterns$Scribe", "putDigits", "(LDecimalPatterns$Sub;I)V"⟩) ∈ tbl := tbl_in (i := 567) (by decide +kernel) (by decide +kernel)
theorem tw568 : (Cond.code ⟨"DecimalPatterns$Scribe", "putDigits", "(LDecimalPatterns$Sub;I)V"⟩ prog_7_method_5_code 6 (Option.none : Option FieldType)) ∈ tbl := tbl_in (i := 568) (by decide +kernel) (by decide +kernel)
theorem tw569 : (Cond.methodLink "DecimalPatterns$Scribe" 119 ⟨"java/lang/Math", "max", "(II)I"⟩) ∈ tbl := tbl_in (i := 569) (by decide +kernel) (by decide +kernel)
theorem tw570 : (Cond.methodLink "DecimalPatterns$Scribe" 122 ⟨"DecimalPatterns$Amount", "lastPower", "()I"⟩) ∈ tbl := tbl_in (i := 570) (by decide +kernel) (by decide +kernel)
theorem tw571 : (Cond.instanceMethod ⟨"DecimalPatterns$Amount", "lastPower", "()I"⟩) ∈ tbl := tbl_in (i := 571) (by decide +kernel) (by decide +kernel)
theorem tw572 : (Cond.selects "DecimalPatterns$Amount" ⟨"DecimalPatterns$Amount", "lastPower", "()I"⟩ ⟨"DecimalPatterns$Amount", "lastPower", "()I"⟩) ∈ tbl := tbl_in (i := 572) (by decide +kernel) (by decide +kernel)
theorem tw573 : (Cond.code ⟨"DecimalPatterns$Amount", "lastPower", "()I"⟩ prog_2_method_7_code 2 (some .int)) ∈ tbl := tbl_in (i := 573) (by decide +kernel) (by decide +kernel)
theorem tw574 : (Cond.methodLink "DecimalPatterns$Scribe" 125 ⟨"DecimalPatterns$Scribe", "putWhole", "(LDecimalPatterns$Sub;II)V"⟩) ∈ tbl := tbl_in (i := 574) (by decide +kernel) (by decide +kernel)
theorem tw576 : (Cond.instanceMethod ⟨"DecimalPatterns$Scribe", "putWhole", "(LDecimalPatterns$Sub;II)V"⟩) ∈ tbl := tbl_in (i := 576) (by decide +kernel) (by decide +kernel)
theorem tw577 : (Cond.code ⟨"DecimalPatterns$Scribe", "putWhole", "(LDecimalPatterns$Sub;II)V"⟩ prog_7_method_6_code 6 (Option.none : Option FieldType)) ∈ tbl := tbl_in (i := 577) (by decide +kernel) (by decide +kernel)
theorem tw578 : (Cond.methodLink "DecimalPatterns$Scribe" 129 ⟨"DecimalPatterns$Amount", "digit", "(I)I"⟩) ∈ tbl := tbl_in (i := 578) (by decide +kernel) (by decide +kernel)
theorem tw579 : (Cond.methodLink "DecimalPatterns$Scribe" 133 ⟨"DecimalPatterns$Scribe", "putDigit", "(I)V"⟩) ∈ tbl := tbl_in (i := 579) (by decide +kernel) (by decide +kernel)
theorem tw581 : (Cond.instanceMethod ⟨"DecimalPatterns$Scribe", "putDigit", "(I)V"⟩) ∈ tbl := tbl_in (i := 581) (by decide +kernel) (by decide +kernel)
theorem tw582 : (Cond.code ⟨"DecimalPatterns$Scribe", "putDigit", "(I)V"⟩ prog_7_method_12_code 2 (Option.none : Option FieldType)) ∈ tbl := tbl_in (i := 582) (by decide +kernel) (by decide +kernel)
theorem tw583 : (Cond.methodLink "DecimalPatterns$Scribe" 173 ⟨"DecimalPatterns$Symbols", "digitCode", "(I)I"⟩) ∈ tbl := tbl_in (i := 583) (by decide +kernel) (by decide +kernel)
theorem tw584 : (Cond.methodLink "DecimalPatterns$Scribe" 144 ⟨"DecimalPatterns$Sub", "groupsBefore", "(I)Z"⟩) ∈ tbl := tbl_in (i := 584) (by decide +kernel) (by decide +kernel)
theorem tw585 : (Cond.instanceMethod ⟨"DecimalPatterns$Sub", "groupsBefore", "(I)Z"⟩) ∈ tbl := tbl_in (i := 585) (by decide +kernel) (by decide +kernel)
theorem tw586 : (Cond.selects "DecimalPatterns$Sub" ⟨"DecimalPatterns$Sub", "groupsBefore", "(I)Z"⟩ ⟨"DecimalPatterns$Sub", "groupsBefore", "(I)Z"⟩) ∈ tbl := tbl_in (i := 586) (by decide +kernel) (by decide +kernel)
theorem tw587 : (Cond.code ⟨"DecimalPatterns$Sub", "groupsBefore", "(I)Z"⟩ prog_8_method_4_code 4 (some .boolean)) ∈ tbl := tbl_in (i := 587) (by decide +kernel) (by decide +kernel)
theorem tw588 : (Cond.methodLink "DecimalPatterns$Scribe" 87 ⟨"DecimalPatterns$Scribe", "putExponent", "(LDecimalPatterns$Sub;I)V"⟩) ∈ tbl := tbl_in (i := 588) (by decide +kernel) (by decide +kernel)
theorem tw590 : (Cond.instanceMethod ⟨"DecimalPatterns$Scribe", "putExponent", "(LDecimalPatterns$Sub;I)V"⟩) ∈ tbl := tbl_in (i := 590) (by decide +kernel) (by decide +kernel)
theorem tw591 : (Cond.code ⟨"DecimalPatterns$Scribe", "putExponent", "(LDecimalPatterns$Sub;I)V"⟩ prog_7_method_7_code 6 (Option.none : Option FieldType)) ∈ tbl := tbl_in (i := 591) (by decide +kernel) (by decide +kernel)
theorem tw592 : (Cond.methodLink "DecimalPatterns$Scribe" 154 ⟨"java/lang/Math", "abs", "(I)I"⟩) ∈ tbl := tbl_in (i := 592) (by decide +kernel) (by decide +kernel)
theorem tw593 : (Cond.static ⟨"java/lang/Math", "abs", "(I)I"⟩) ∈ tbl := tbl_in (i := 593) (by decide +kernel) (by decide +kernel)
theorem tw594 : (Cond.code ⟨"java/lang/Math", "abs", "(I)I"⟩ prog_12_method_59_code 1 (some .int)) ∈ tbl := tbl_in (i := 594) (by decide +kernel) (by decide +kernel)
theorem tw595 : (Cond.methodLink "DecimalPatterns$Scribe" 160 ⟨"DecimalPatterns$Scribe", "widthOf", "(I)I"⟩) ∈ tbl := tbl_in (i := 595) (by decide +kernel) (by decide +kernel)
theorem tw596 : (Cond.static ⟨"DecimalPatterns$Scribe", "widthOf", "(I)I"⟩) ∈ tbl := tbl_in (i := 596) (by decide +kernel) (by decide +kernel)
theorem tw597 : (Cond.code ⟨"DecimalPatterns$Scribe", "widthOf", "(I)I"⟩ prog_7_method_8_code 4 (some .int)) ∈ tbl := tbl_in (i := 597) (by decide +kernel) (by decide +kernel)
theorem tw598 : (Cond.methodLink "DecimalPatterns$Scribe" 163 ⟨"DecimalPatterns$Scribe", "digitAt", "(II)I"⟩) ∈ tbl := tbl_in (i := 598) (by decide +kernel) (by decide +kernel)
theorem tw599 : (Cond.static ⟨"DecimalPatterns$Scribe", "digitAt", "(II)I"⟩) ∈ tbl := tbl_in (i := 599) (by decide +kernel) (by decide +kernel)
theorem tw600 : (Cond.code ⟨"DecimalPatterns$Scribe", "digitAt", "(II)I"⟩ prog_7_method_9_code 4 (some .int)) ∈ tbl := tbl_in (i := 600) (by decide +kernel) (by decide +kernel)
theorem tw601 : (Cond.methodLink "DecimalPatterns" 103 ⟨"DecimalPatterns$Row", "copyFrom", "(LDecimalPatterns$Row;)V"⟩) ∈ tbl := tbl_in (i := 601) (by decide +kernel) (by decide +kernel)
theorem tw602 : (Cond.instanceMethod ⟨"DecimalPatterns$Row", "copyFrom", "(LDecimalPatterns$Row;)V"⟩) ∈ tbl := tbl_in (i := 602) (by decide +kernel) (by decide +kernel)
theorem tw603 : (Cond.selects "DecimalPatterns$Row" ⟨"DecimalPatterns$Row", "copyFrom", "(LDecimalPatterns$Row;)V"⟩ ⟨"DecimalPatterns$Row", "copyFrom", "(LDecimalPatterns$Row;)V"⟩) ∈ tbl := tbl_in (i := 603) (by decide +kernel) (by decide +kernel)
theorem tw604 : (Cond.code ⟨"DecimalPatterns$Row", "copyFrom", "(LDecimalPatterns$Row;)V"⟩ prog_6_method_6_code 3 (Option.none : Option FieldType)) ∈ tbl := tbl_in (i := 604) (by decide +kernel) (by decide +kernel)
theorem tw605 : (Cond.methodLink "DecimalPatterns$Row" 27 ⟨"DecimalPatterns$Row", "clear", "()V"⟩) ∈ tbl := tbl_in (i := 605) (by decide +kernel) (by decide +kernel)
theorem tw606 : (Cond.methodLink "DecimalPatterns$Row" 30 ⟨"DecimalPatterns$Row", "code", "(I)I"⟩) ∈ tbl := tbl_in (i := 606) (by decide +kernel) (by decide +kernel)
theorem tw607 : (Cond.methodLink "DecimalPatterns$Row" 34 ⟨"DecimalPatterns$Row", "add", "(I)Z"⟩) ∈ tbl := tbl_in (i := 607) (by decide +kernel) (by decide +kernel)
theorem tw624 : (Cond.methodLink "DecimalPatterns" 110 ⟨"DecimalPatterns$Row", "has", "(I)Z"⟩) ∈ tbl := tbl_in (i := 624) (by decide +kernel) (by decide +kernel)
theorem tw625 : (Cond.methodLink "DecimalPatterns" 113 ⟨"DecimalPatterns$Row", "code", "(I)I"⟩) ∈ tbl := tbl_in (i := 625) (by decide +kernel) (by decide +kernel)
theorem tw630 : (Cond.methodLink "DecimalPatterns" 117 ⟨"DecimalPatterns$Finder", "find", "(LDecimalPatterns$Pattern;LDecimalPatterns$Row;Z)Z"⟩) ∈ tbl := tbl_in (i := 630) (by decide +kernel) (by decide +kernel)
theorem tw631 : (Cond.instanceMethod ⟨"DecimalPatterns$Finder", "find", "(LDecimalPatterns$Pattern;LDecimalPatterns$Row;Z)Z"⟩) ∈ tbl := tbl_in (i := 631) (by decide +kernel) (by decide +kernel)
theorem tw632 : (Cond.selects "DecimalPatterns$Finder" ⟨"DecimalPatterns$Finder", "find", "(LDecimalPatterns$Pattern;LDecimalPatterns$Row;Z)Z"⟩ ⟨"DecimalPatterns$Finder", "find", "(LDecimalPatterns$Pattern;LDecimalPatterns$Row;Z)Z"⟩) ∈ tbl := tbl_in (i := 632) (by decide +kernel) (by decide +kernel)
theorem tw633 : (Cond.code ⟨"DecimalPatterns$Finder", "find", "(LDecimalPatterns$Pattern;LDecimalPatterns$Row;Z)Z"⟩ prog_3_method_2_code 4 (some .boolean)) ∈ tbl := tbl_in (i := 633) (by decide +kernel) (by decide +kernel)
theorem tw634 : (Cond.methodLink "DecimalPatterns$Finder" 19 ⟨"DecimalPatterns$Finder", "gather", "(LDecimalPatterns$Pattern;LDecimalPatterns$Row;Z)Z"⟩) ∈ tbl := tbl_in (i := 634) (by decide +kernel) (by decide +kernel)
theorem tw636 : (Cond.instanceMethod ⟨"DecimalPatterns$Finder", "gather", "(LDecimalPatterns$Pattern;LDecimalPatterns$Row;Z)Z"⟩) ∈ tbl := tbl_in (i := 636) (by decide +kernel) (by decide +kernel)
theorem tw637 : (Cond.code ⟨"DecimalPatterns$Finder", "gather", "(LDecimalPatterns$Pattern;LDecimalPatterns$Row;Z)Z"⟩ prog_3_method_3_code 8 (some .boolean)) ∈ tbl := tbl_in (i := 637) (by decide +kernel) (by decide +kernel)
theorem tw638 : (Cond.methodLink "DecimalPatterns$Finder" 63 ⟨"DecimalPatterns$Finder", "begin", "()V"⟩) ∈ tbl := tbl_in (i := 638) (by decide +kernel) (by decide +kernel)
theorem tw640 : (Cond.instanceMethod ⟨"DecimalPatterns$Finder", "begin", "()V"⟩) ∈ tbl := tbl_in (i := 640) (by decide +kernel) (by decide +kernel)
theorem tw641 : (Cond.code ⟨"DecimalPatterns$Finder", "begin", "()V"⟩ prog_3_method_4_code 1 (Option.none : Option FieldType)) ∈ tbl := tbl_in (i := 641) (by decide +kernel) (by decide +kernel)
theorem tw642 : (Cond.methodLink "DecimalPatterns$Finder" 66 ⟨"DecimalPatterns$Pattern", "affixesFor", "(Z)LDecimalPatterns$Sub;"⟩) ∈ tbl := tbl_in (i := 642) (by decide +kernel) (by decide +kernel)
theorem tw643 : (Cond.methodLink "DecimalPatterns$Finder" 76 ⟨"DecimalPatterns$Pattern", "needsMinus", "(Z)Z"⟩) ∈ tbl := tbl_in (i := 643) (by decide +kernel) (by decide +kernel)
theorem tw644 : (Cond.methodLink "DecimalPatterns$Finder" 82 ⟨"DecimalPatterns$Row", "code", "(I)I"⟩) ∈ tbl := tbl_in (i := 644) (by decide +kernel) (by decide +kernel)
theorem tw645 : (Cond.methodLink "DecimalPatterns$Finder" 86 ⟨"DecimalPatterns$Finder", "take", "(I)Z"⟩) ∈ tbl := tbl_in (i := 645) (by decide +kernel) (by decide +kernel)
theorem tw647 : (Cond.instanceMethod ⟨"DecimalPatterns$Finder", "take", "(I)Z"⟩) ∈ tbl := tbl_in (i := 647) (by decide +kernel) (by decide +kernel)
theorem tw648 : (Cond.code ⟨"DecimalPatterns$Finder", "take", "(I)Z"⟩ prog_3_method_5_code 3 (some .boolean)) ∈ tbl := tbl_in (i := 648) (by decide +kernel) (by decide +kernel)
theorem tw649 : (Cond.methodLink "DecimalPatterns$Finder" 102 ⟨"DecimalPatterns$Symbols", "digitOf", "(I)I"⟩) ∈ tbl := tbl_in (i := 649) (by decide +kernel) (by decide +kernel)
theorem tw650 : (Cond.methodLink "DecimalPatterns$Finder" 107 ⟨"DecimalPatterns$Finder", "takeDigit", "(I)Z"⟩) ∈ tbl := tbl_in (i := 650) (by decide +kernel) (by decide +kernel)
theorem tw652 : (Cond.instanceMethod ⟨"DecimalPatterns$Finder", "takeDigit", "(I)Z"⟩) ∈ tbl := tbl_in (i := 652) (by decide +kernel) (by decide +kernel)
theorem tw653 : (Cond.code ⟨"DecimalPatterns$Finder", "takeDigit", "(I)Z"⟩ prog_3_method_7_code 2 (some .boolean)) ∈ tbl := tbl_in (i := 653) (by decide +kernel) (by decide +kernel)
theorem tw654 : (Cond.methodLink "DecimalPatterns$Finder" 114 ⟨"DecimalPatterns$Finder", "takeZerosBehind", "()Z"⟩) ∈ tbl := tbl_in (i := 654) (by decide +kernel) (by decide +kernel)
theorem tw656 : (Cond.instanceMethod ⟨"DecimalPatterns$Finder", "takeZerosBehind", "()Z"⟩) ∈ tbl := tbl_in (i := 656) (by decide +kernel) (by decide +kernel)
theorem tw657 : (Cond.code ⟨"DecimalPatterns$Finder", "takeZerosBehind", "()Z"⟩ prog_3_method_8_code 3 (some .boolean)) ∈ tbl := tbl_in (i := 657) (by decide +kernel) (by decide +kernel)
theorem tw658 : (Cond.methodLink "DecimalPatterns$Finder" 118 ⟨"DecimalPatterns$Finder", "append", "(I)Z"⟩) ∈ tbl := tbl_in (i := 658) (by decide +kernel) (by decide +kernel)
theorem tw660 : (Cond.instanceMethod ⟨"DecimalPatterns$Finder", "append", "(I)Z"⟩) ∈ tbl := tbl_in (i := 660) (by decide +kernel) (by decide +kernel)
theorem tw661 : (Cond.code ⟨"DecimalPatterns$Finder", "append", "(I)Z"⟩ prog_3_method_9_code 2 (some .boolean)) ∈ tbl := tbl_in (i := 661) (by decide +kernel) (by decide +kernel)
theorem tw662 : (Cond.constantLong "DecimalPatterns$Finder" 121 9223372036854775807) ∈ tbl := tbl_in (i := 662) (by decide +kernel) (by decide +kernel)
theorem tw663 : (Cond.constantLong "DecimalPatterns$Finder" 123 10) ∈ tbl := tbl_in (i := 663) (by decide +kernel) (by decide +kernel)
theorem tw664 : (Cond.methodLink "DecimalPatterns$Finder" 110 ⟨"DecimalPatterns$Symbols", "code", "(I)I"⟩) ∈ tbl := tbl_in (i := 664) (by decide +kernel) (by decide +kernel)
theorem tw665 : (Cond.methodLink "DecimalPatterns$Finder" 111 ⟨"DecimalPatterns$Finder", "enter", "(I)Z"⟩) ∈ tbl := tbl_in (i := 665) (by decide +kernel) (by decide +kernel)
theorem tw667 : (Cond.instanceMethod ⟨"DecimalPatterns$Finder", "enter", "(I)Z"⟩) ∈ tbl := tbl_in (i := 667) (by decide +kernel) (by decide +kernel)
theorem tw668 : (Cond.code ⟨"DecimalPatterns$Finder", "enter", "(I)Z"⟩ prog_3_method_6_code 2 (some .boolean)) ∈ tbl := tbl_in (i := 668) (by decide +kernel) (by decide +kernel)
theorem tw669 : (Cond.methodLink "DecimalPatterns$Finder" 35 ⟨"DecimalPatterns$Finder", "settle", "(Z)Z"⟩) ∈ tbl := tbl_in (i := 669) (by decide +kernel) (by decide +kernel)
theorem tw671 : (Cond.instanceMethod ⟨"DecimalPatterns$Finder", "settle", "(Z)Z"⟩) ∈ tbl := tbl_in (i := 671) (by decide +kernel) (by decide +kernel)
theorem tw672 : (Cond.code ⟨"DecimalPatterns$Finder", "settle", "(Z)Z"⟩ prog_3_method_10_code 4 (some .boolean)) ∈ tbl := tbl_in (i := 672) (by decide +kernel) (by decide +kernel)
theorem tw673 : (Cond.methodLink "DecimalPatterns$Finder" 47 ⟨"DecimalPatterns$Scribe", "compose", "(LDecimalPatterns$Pattern;ZJII)Z"⟩) ∈ tbl := tbl_in (i := 673) (by decide +kernel) (by decide +kernel)
theorem tw674 : (Cond.methodLink "DecimalPatterns$Finder" 57 ⟨"DecimalPatterns$Row", "isSameAs", "(LDecimalPatterns$Row;)Z"⟩) ∈ tbl := tbl_in (i := 674) (by decide +kernel) (by decide +kernel)
theorem tw675 : (Cond.instanceMethod ⟨"DecimalPatterns$Row", "isSameAs", "(LDecimalPatterns$Row;)Z"⟩) ∈ tbl := tbl_in (i := 675) (by decide +kernel) (by decide +kernel)
theorem tw676 : (Cond.selects "DecimalPatterns$Row" ⟨"DecimalPatterns$Row", "isSameAs", "(LDecimalPatterns$Row;)Z"⟩ ⟨"DecimalPatterns$Row", "isSameAs", "(LDecimalPatterns$Row;)Z"⟩) ∈ tbl := tbl_in (i := 676) (by decide +kernel) (by decide +kernel)
theorem tw677 : (Cond.code ⟨"DecimalPatterns$Row", "isSameAs", "(LDecimalPatterns$Row;)Z"⟩ prog_6_method_7_code 3 (some .boolean)) ∈ tbl := tbl_in (i := 677) (by decide +kernel) (by decide +kernel)
theorem tw678 : (Cond.methodLink "DecimalPatterns" 128 ⟨"DecimalPatterns", "keepFound", "(JI)V"⟩) ∈ tbl := tbl_in (i := 678) (by decide +kernel) (by decide +kernel)
theorem tw680 : (Cond.instanceMethod ⟨"DecimalPatterns", "keepFound", "(JI)V"⟩) ∈ tbl := tbl_in (i := 680) (by decide +kernel) (by decide +kernel)
theorem tw681 : (Cond.code ⟨"DecimalPatterns", "keepFound", "(JI)V"⟩ prog_1_method_15_code 4 (Option.none : Option FieldType)) ∈ tbl := tbl_in (i := 681) (by decide +kernel) (by decide +kernel)
theorem tw696 : (Cond.fieldLink "DecimalPatternsModel" 7 "DecimalPatternsModel" "draft" "[I") ∈ tbl := tbl_in (i := 696) (by decide +kernel) (by decide +kernel)
theorem tw697 : (Cond.fieldLink "DecimalPatternsModel" 50 "DecimalPatternsModel" "draftSize" "I") ∈ tbl := tbl_in (i := 697) (by decide +kernel) (by decide +kernel)
theorem tw698 : (Cond.fieldLink "DecimalPatternsModel" 56 "DecimalPatternsModel" "state" "I") ∈ tbl := tbl_in (i := 698) (by decide +kernel) (by decide +kernel)
theorem tw699 : (Cond.fieldLink "DecimalPatternsModel" 53 "DecimalPatternsModel" "sub" "I") ∈ tbl := tbl_in (i := 699) (by decide +kernel) (by decide +kernel)
theorem tw700 : (Cond.fieldLink "DecimalPatternsModel" 63 "DecimalPatternsModel" "quoted" "I") ∈ tbl := tbl_in (i := 700) (by decide +kernel) (by decide +kernel)
theorem tw701 : (Cond.fieldLink "DecimalPatternsModel" 13 "DecimalPatternsModel" "now" "[I") ∈ tbl := tbl_in (i := 701) (by decide +kernel) (by decide +kernel)
theorem tw702 : (Cond.fieldLink "DecimalPatternsModel" 16 "DecimalPatternsModel" "first" "[I") ∈ tbl := tbl_in (i := 702) (by decide +kernel) (by decide +kernel)
theorem tw703 : (Cond.fieldLink "DecimalPatternsModel" 19 "DecimalPatternsModel" "has" "[I") ∈ tbl := tbl_in (i := 703) (by decide +kernel) (by decide +kernel)
theorem tw704 : (Cond.fieldLink "DecimalPatternsModel" 22 "DecimalPatternsModel" "draftAffix" "[I") ∈ tbl := tbl_in (i := 704) (by decide +kernel) (by decide +kernel)
theorem tw705 : (Cond.fieldLink "DecimalPatternsModel" 25 "DecimalPatternsModel" "draftLength" "[I") ∈ tbl := tbl_in (i := 705) (by decide +kernel) (by decide +kernel)
theorem tw706 : (Cond.fieldLink "DecimalPatternsModel" 28 "DecimalPatternsModel" "affix" "[I") ∈ tbl := tbl_in (i := 706) (by decide +kernel) (by decide +kernel)
theorem tw707 : (Cond.fieldLink "DecimalPatternsModel" 31 "DecimalPatternsModel" "affixLength" "[I") ∈ tbl := tbl_in (i := 707) (by decide +kernel) (by decide +kernel)
theorem tw708 : (Cond.fieldLink "DecimalPatternsModel" 104 "DecimalPatternsModel" "two" "Z") ∈ tbl := tbl_in (i := 708) (by decide +kernel) (by decide +kernel)
theorem tw709 : (Cond.fieldLink "DecimalPatternsModel" 34 "DecimalPatternsModel" "symbol" "[I") ∈ tbl := tbl_in (i := 709) (by decide +kernel) (by decide +kernel)
theorem tw710 : (Cond.fieldLink "DecimalPatternsModel" 37 "DecimalPatternsModel" "least" "I") ∈ tbl := tbl_in (i := 710) (by decide +kernel) (by decide +kernel)
theorem tw711 : (Cond.fieldLink "DecimalPatternsModel" 41 "DecimalPatternsModel" "digit" "[I") ∈ tbl := tbl_in (i := 711) (by decide +kernel) (by decide +kernel)
theorem tw712 : (Cond.fieldLink "DecimalPatternsModel" 44 "DecimalPatternsModel" "out" "[I") ∈ tbl := tbl_in (i := 712) (by decide +kernel) (by decide +kernel)
theorem tw713 : (Cond.fieldLink "DecimalPatternsModel" 127 "DecimalPatternsModel" "outSize" "I") ∈ tbl := tbl_in (i := 713) (by decide +kernel) (by decide +kernel)
theorem tw714 : (Cond.fieldLink "DecimalPatternsModel" 47 "DecimalPatternsModel" "text" "[I") ∈ tbl := tbl_in (i := 714) (by decide +kernel) (by decide +kernel)
theorem tw715 : (Cond.fieldLink "DecimalPatternsModel" 164 "DecimalPatternsModel" "textSize" "I") ∈ tbl := tbl_in (i := 715) (by decide +kernel) (by decide +kernel)
theorem tw716 : (Cond.fieldLink "DecimalPatternsModel" 196 "DecimalPatternsModel" "foundSize" "J") ∈ tbl := tbl_in (i := 716) (by decide +kernel) (by decide +kernel)
theorem tw717 : (Cond.fieldLink "DecimalPatternsModel" 199 "DecimalPatternsModel" "foundScale" "I") ∈ tbl := tbl_in (i := 717) (by decide +kernel) (by decide +kernel)
theorem tw718 : (Cond.fieldLink "DecimalPatternsModel" 167 "DecimalPatternsModel" "guess" "J") ∈ tbl := tbl_in (i := 718) (by decide +kernel) (by decide +kernel)
theorem tw719 : (Cond.fieldLink "DecimalPatternsModel" 174 "DecimalPatternsModel" "guessScale" "I") ∈ tbl := tbl_in (i := 719) (by decide +kernel) (by decide +kernel)
theorem tw781 : (Cond.methodLink "DecimalPatternsModel" 74 ⟨"DecimalPatternsModel", "begin", "(I)V"⟩) ∈ tbl := tbl_in (i := 781) (by decide +kernel) (by decide +kernel)
theorem tw783 : (Cond.instanceMethod ⟨"DecimalPatternsModel", "begin", "(I)V"⟩) ∈ tbl := tbl_in (i := 783) (by decide +kernel) (by decide +kernel)
theorem tw784 : (Cond.code ⟨"DecimalPatternsModel", "begin", "(I)V"⟩ prog_11_method_4_code 3 (Option.none : Option FieldType)) ∈ tbl := tbl_in (i := 784) (by decide +kernel) (by decide +kernel)
theorem tw785 : (Cond.methodLink "DecimalPatternsModel" 101 ⟨"DecimalPatternsModel", "step", "(I)Z"⟩) ∈ tbl := tbl_in (i := 785) (by decide +kernel) (by decide +kernel)
theorem tw787 : (Cond.instanceMethod ⟨"DecimalPatternsModel", "step", "(I)Z"⟩) ∈ tbl := tbl_in (i := 787) (by decide +kernel) (by decide +kernel)
theorem tw788 : (Cond.code ⟨"DecimalPatternsModel", "step", "(I)Z"⟩ prog_11_method_15_code 2 (some .boolean)) ∈ tbl := tbl_in (i := 788) (by decide +kernel) (by decide +kernel)
theorem tw789 : (Cond.methodLink "DecimalPatternsModel" 81 ⟨"DecimalPatternsModel", "integerDigit", "(I)Z"⟩) ∈ tbl := tbl_in (i := 789) (by decide +kernel) (by decide +kernel)
theorem tw791 : (Cond.instanceMethod ⟨"DecimalPatternsModel", "integerDigit", "(I)Z"⟩) ∈ tbl := tbl_in (i := 791) (by decide +kernel) (by decide +kernel)
theorem tw792 : (Cond.code ⟨"DecimalPatternsModel", "integerDigit", "(I)Z"⟩ prog_11_method_9_code 2 (some .boolean)) ∈ tbl := tbl_in (i := 792) (by decide +kernel) (by decide +kernel)
theorem tw793 : (Cond.methodLink "DecimalPatternsModel" 77 ⟨"DecimalPatternsModel", "plainAffix", "(II)Z"⟩) ∈ tbl := tbl_in (i := 793) (by decide +kernel) (by decide +kernel)
theorem tw795 : (Cond.instanceMethod ⟨"DecimalPatternsModel", "plainAffix", "(II)Z"⟩) ∈ tbl := tbl_in (i := 795) (by decide +kernel) (by decide +kernel)
theorem tw796 : (Cond.code ⟨"DecimalPatternsModel", "plainAffix", "(II)Z"⟩ prog_11_method_7_code 3 (some .boolean)) ∈ tbl := tbl_in (i := 796) (by decide +kernel) (by decide +kernel)
theorem tw797 : (Cond.methodLink "DecimalPatternsModel" 59 ⟨"DecimalPatternsModel", "special", "(I)Z"⟩) ∈ tbl := tbl_in (i := 797) (by decide +kernel) (by decide +kernel)
theorem tw798 : (Cond.static ⟨"DecimalPatternsModel", "special", "(I)Z"⟩) ∈ tbl := tbl_in (i := 798) (by decide +kernel) (by decide +kernel)
theorem tw799 : (Cond.code ⟨"DecimalPatternsModel", "special", "(I)Z"⟩ prog_11_method_6_code 1 (some .boolean)) ∈ tbl := tbl_in (i := 799) (by decide +kernel) (by decide +kernel)
theorem tw800 : (Cond.methodLink "DecimalPatternsModel" 66 ⟨"DecimalPatternsModel", "keep", "(I)V"⟩) ∈ tbl := tbl_in (i := 800) (by decide +kernel) (by decide +kernel)
theorem tw802 : (Cond.instanceMethod ⟨"DecimalPatternsModel", "keep", "(I)V"⟩) ∈ tbl := tbl_in (i := 802) (by decide +kernel) (by decide +kernel)
theorem tw803 : (Cond.code ⟨"DecimalPatternsModel", "keep", "(I)V"⟩ prog_11_method_5_code 3 (Option.none : Option FieldType)) ∈ tbl := tbl_in (i := 803) (by decide +kernel) (by decide +kernel)
theorem tw804 : (Cond.methodLink "DecimalPatternsModel" 91 ⟨"DecimalPatternsModel", "inQuote", "(II)V"⟩) ∈ tbl := tbl_in (i := 804) (by decide +kernel) (by decide +kernel)
theorem tw806 : (Cond.instanceMethod ⟨"DecimalPatternsModel", "inQuote", "(II)V"⟩) ∈ tbl := tbl_in (i := 806) (by decide +kernel) (by decide +kernel)
theorem tw807 : (Cond.code ⟨"DecimalPatternsModel", "inQuote", "(II)V"⟩ prog_11_method_8_code 3 (Option.none : Option FieldType)) ∈ tbl := tbl_in (i := 807) (by decide +kernel) (by decide +kernel)
theorem tw808 : (Cond.methodLink "DecimalPatternsModel" 95 ⟨"DecimalPatternsModel", "inNumber", "(I)Z"⟩) ∈ tbl := tbl_in (i := 808) (by decide +kernel) (by decide +kernel)
theorem tw810 : (Cond.instanceMethod ⟨"DecimalPatternsModel", "inNumber", "(I)Z"⟩) ∈ tbl := tbl_in (i := 810) (by decide +kernel) (by decide +kernel)
theorem tw811 : (Cond.code ⟨"DecimalPatternsModel", "inNumber", "(I)Z"⟩ prog_11_method_13_code 2 (some .boolean)) ∈ tbl := tbl_in (i := 811) (by decide +kernel) (by decide +kernel)
theorem tw812 : (Cond.methodLink "DecimalPatternsModel" 84 ⟨"DecimalPatternsModel", "power", "()Z"⟩) ∈ tbl := tbl_in (i := 812) (by decide +kernel) (by decide +kernel)
theorem tw814 : (Cond.instanceMethod ⟨"DecimalPatternsModel", "power", "()Z"⟩) ∈ tbl := tbl_in (i := 814) (by decide +kernel) (by decide +kernel)
theorem tw815 : (Cond.code ⟨"DecimalPatternsModel", "power", "()Z"⟩ prog_11_method_10_code 1 (some .boolean)) ∈ tbl := tbl_in (i := 815) (by decide +kernel) (by decide +kernel)
theorem tw816 : (Cond.methodLink "DecimalPatternsModel" 88 ⟨"DecimalPatternsModel", "behind", "(I)Z"⟩) ∈ tbl := tbl_in (i := 816) (by decide +kernel) (by decide +kernel)
theorem tw818 : (Cond.instanceMethod ⟨"DecimalPatternsModel", "behind", "(I)Z"⟩) ∈ tbl := tbl_in (i := 818) (by decide +kernel) (by decide +kernel)
theorem tw819 : (Cond.code ⟨"DecimalPatternsModel", "behind", "(I)Z"⟩ prog_11_method_11_code 3 (some .boolean)) ∈ tbl := tbl_in (i := 819) (by decide +kernel) (by decide +kernel)
theorem tw820 : (Cond.methodLink "DecimalPatternsModel" 70 ⟨"DecimalPatternsModel", "copy", "([I[I)V"⟩) ∈ tbl := tbl_in (i := 820) (by decide +kernel) (by decide +kernel)
theorem tw821 : (Cond.static ⟨"DecimalPatternsModel", "copy", "([I[I)V"⟩) ∈ tbl := tbl_in (i := 821) (by decide +kernel) (by decide +kernel)
theorem tw822 : (Cond.code ⟨"DecimalPatternsModel", "copy", "([I[I)V"⟩ prog_11_method_12_code 3 (Option.none : Option FieldType)) ∈ tbl := tbl_in (i := 822) (by decide +kernel) (by decide +kernel)
theorem tw823 : (Cond.methodLink "DecimalPatternsModel" 98 ⟨"DecimalPatternsModel", "inFraction", "(I)Z"⟩) ∈ tbl := tbl_in (i := 823) (by decide +kernel) (by decide +kernel)
theorem tw825 : (Cond.instanceMethod ⟨"DecimalPatternsModel", "inFraction", "(I)Z"⟩) ∈ tbl := tbl_in (i := 825) (by decide +kernel) (by decide +kernel)
theorem tw826 : (Cond.code ⟨"DecimalPatternsModel", "inFraction", "(I)Z"⟩ prog_11_method_14_code 3 (some .boolean)) ∈ tbl := tbl_in (i := 826) (by decide +kernel) (by decide +kernel)
theorem tw831 : (Cond.methodLink "DecimalPatternsModel" 108 ⟨"DecimalPatternsModel", "sign", "(I)I"⟩) ∈ tbl := tbl_in (i := 831) (by decide +kernel) (by decide +kernel)
theorem tw833 : (Cond.instanceMethod ⟨"DecimalPatternsModel", "sign", "(I)I"⟩) ∈ tbl := tbl_in (i := 833) (by decide +kernel) (by decide +kernel)
theorem tw834 : (Cond.code ⟨"DecimalPatternsModel", "sign", "(I)I"⟩ prog_11_method_18_code 2 (some .int)) ∈ tbl := tbl_in (i := 834) (by decide +kernel) (by decide +kernel)
theorem tw843 : (Cond.methodLink "DecimalPatternsModel" 160 ⟨"DecimalPatternsModel", "render", "(ZJII)Z"⟩) ∈ tbl := tbl_in (i := 843) (by decide +kernel) (by decide +kernel)
theorem tw845 : (Cond.instanceMethod ⟨"DecimalPatternsModel", "render", "(ZJII)Z"⟩) ∈ tbl := tbl_in (i := 845) (by decide +kernel) (by decide +kernel)
theorem tw846 : (Cond.code ⟨"DecimalPatternsModel", "render", "(ZJII)Z"⟩ prog_11_method_33_code 10 (some .boolean)) ∈ tbl := tbl_in (i := 846) (by decide +kernel) (by decide +kernel)
theorem tw847 : (Cond.methodLink "DecimalPatternsModel" 140 ⟨"DecimalPatternsModel", "load", "(JI)V"⟩) ∈ tbl := tbl_in (i := 847) (by decide +kernel) (by decide +kernel)
theorem tw849 : (Cond.instanceMethod ⟨"DecimalPatternsModel", "load", "(JI)V"⟩) ∈ tbl := tbl_in (i := 849) (by decide +kernel) (by decide +kernel)
theorem tw850 : (Cond.code ⟨"DecimalPatternsModel", "load", "(JI)V"⟩ prog_11_method_21_code 8 (Option.none : Option FieldType)) ∈ tbl := tbl_in (i := 850) (by decide +kernel) (by decide +kernel)
theorem tw851 : (Cond.methodLink "DecimalPatternsModel" 112 ⟨"DecimalPatternsModel", "percent", "()Z"⟩) ∈ tbl := tbl_in (i := 851) (by decide +kernel) (by decide +kernel)
theorem tw853 : (Cond.instanceMethod ⟨"DecimalPatternsModel", "percent", "()Z"⟩) ∈ tbl := tbl_in (i := 853) (by decide +kernel) (by decide +kernel)
theorem tw854 : (Cond.code ⟨"DecimalPatternsModel", "percent", "()Z"⟩ prog_11_method_20_code 4 (some .boolean)) ∈ tbl := tbl_in (i := 854) (by decide +kernel) (by decide +kernel)
theorem tw855 : (Cond.constantLong "DecimalPatternsModel" 115 10) ∈ tbl := tbl_in (i := 855) (by decide +kernel) (by decide +kernel)
theorem tw856 : (Cond.methodLink "DecimalPatternsModel" 144 ⟨"DecimalPatternsModel", "round", "(IZI)Z"⟩) ∈ tbl := tbl_in (i := 856) (by decide +kernel) (by decide +kernel)
theorem tw858 : (Cond.instanceMethod ⟨"DecimalPatternsModel", "round", "(IZI)Z"⟩) ∈ tbl := tbl_in (i := 858) (by decide +kernel) (by decide +kernel)
theorem tw859 : (Cond.code ⟨"DecimalPatternsModel", "round", "(IZI)Z"⟩ prog_11_method_26_code 6 (some .boolean)) ∈ tbl := tbl_in (i := 859) (by decide +kernel) (by decide +kernel)
theorem tw860 : (Cond.methodLink "DecimalPatternsModel" 120 ⟨"DecimalPatternsModel", "below", "(I)Z"⟩) ∈ tbl := tbl_in (i := 860) (by decide +kernel) (by decide +kernel)
theorem tw862 : (Cond.instanceMethod ⟨"DecimalPatternsModel", "below", "(I)Z"⟩) ∈ tbl := tbl_in (i := 862) (by decide +kernel) (by decide +kernel)
theorem tw863 : (Cond.code ⟨"DecimalPatternsModel", "below", "(I)Z"⟩ prog_11_method_24_code 4 (some .boolean)) ∈ tbl := tbl_in (i := 863) (by decide +kernel) (by decide +kernel)
theorem tw864 : (Cond.methodLink "DecimalPatternsModel" 117 ⟨"DecimalPatternsModel", "digitAt", "(I)I"⟩) ∈ tbl := tbl_in (i := 864) (by decide +kernel) (by decide +kernel)
theorem tw866 : (Cond.instanceMethod ⟨"DecimalPatternsModel", "digitAt", "(I)I"⟩) ∈ tbl := tbl_in (i := 866) (by decide +kernel) (by decide +kernel)
theorem tw867 : (Cond.code ⟨"DecimalPatternsModel", "digitAt", "(I)I"⟩ prog_11_method_22_code 2 (some .int)) ∈ tbl := tbl_in (i := 867) (by decide +kernel) (by decide +kernel)
theorem tw868 : (Cond.methodLink "DecimalPatternsModel" 123 ⟨"DecimalPatternsModel", "upwards", "(IZI)Z"⟩) ∈ tbl := tbl_in (i := 868) (by decide +kernel) (by decide +kernel)
theorem tw870 : (Cond.instanceMethod ⟨"DecimalPatternsModel", "upwards", "(IZI)Z"⟩) ∈ tbl := tbl_in (i := 870) (by decide +kernel) (by decide +kernel)
theorem tw871 : (Cond.code ⟨"DecimalPatternsModel", "upwards", "(IZI)Z"⟩ prog_11_method_25_code 6 (some .boolean)) ∈ tbl := tbl_in (i := 871) (by decide +kernel) (by decide +kernel)
theorem tw872 : (Cond.methodLink "DecimalPatternsModel" 133 ⟨"DecimalPatternsModel", "top", "()I"⟩) ∈ tbl := tbl_in (i := 872) (by decide +kernel) (by decide +kernel)
theorem tw874 : (Cond.instanceMethod ⟨"DecimalPatternsModel", "top", "()I"⟩) ∈ tbl := tbl_in (i := 874) (by decide +kernel) (by decide +kernel)
theorem tw875 : (Cond.code ⟨"DecimalPatternsModel", "top", "()I"⟩ prog_11_method_23_code 3 (some .int)) ∈ tbl := tbl_in (i := 875) (by decide +kernel) (by decide +kernel)
theorem tw876 : (Cond.methodLink "DecimalPatternsModel" 147 ⟨"DecimalPatternsModel", "floorOf", "(II)I"⟩) ∈ tbl := tbl_in (i := 876) (by decide +kernel) (by decide +kernel)
theorem tw877 : (Cond.static ⟨"DecimalPatternsModel", "floorOf", "(II)I"⟩) ∈ tbl := tbl_in (i := 877) (by decide +kernel) (by decide +kernel)
theorem tw878 : (Cond.code ⟨"DecimalPatternsModel", "floorOf", "(II)I"⟩ prog_11_method_29_code 2 (some .int)) ∈ tbl := tbl_in (i := 878) (by decide +kernel) (by decide +kernel)
theorem tw879 : (Cond.methodLink "DecimalPatternsModel" 130 ⟨"DecimalPatternsModel", "put", "(I)V"⟩) ∈ tbl := tbl_in (i := 879) (by decide +kernel) (by decide +kernel)
theorem tw881 : (Cond.instanceMethod ⟨"DecimalPatternsModel", "put", "(I)V"⟩) ∈ tbl := tbl_in (i := 881) (by decide +kernel) (by decide +kernel)
theorem tw882 : (Cond.code ⟨"DecimalPatternsModel", "put", "(I)V"⟩ prog_11_method_27_code 2 (Option.none : Option FieldType)) ∈ tbl := tbl_in (i := 882) (by decide +kernel) (by decide +kernel)
theorem tw883 : (Cond.methodLink "DecimalPatternsModel" 151 ⟨"DecimalPatternsModel", "putAffix", "(I)V"⟩) ∈ tbl := tbl_in (i := 883) (by decide +kernel) (by decide +kernel)
theorem tw885 : (Cond.instanceMethod ⟨"DecimalPatternsModel", "putAffix", "(I)V"⟩) ∈ tbl := tbl_in (i := 885) (by decide +kernel) (by decide +kernel)
theorem tw886 : (Cond.code ⟨"DecimalPatternsModel", "putAffix", "(I)V"⟩ prog_11_method_28_code 4 (Option.none : Option FieldType)) ∈ tbl := tbl_in (i := 886) (by decide +kernel) (by decide +kernel)
theorem tw887 : (Cond.methodLink "DecimalPatternsModel" 154 ⟨"DecimalPatternsModel", "putDigits", "(I)V"⟩) ∈ tbl := tbl_in (i := 887) (by decide +kernel) (by decide +kernel)
theorem tw889 : (Cond.instanceMethod ⟨"DecimalPatternsModel", "putDigits", "(I)V"⟩) ∈ tbl := tbl_in (i := 889) (by decide +kernel) (by decide +kernel)
theorem tw890 : (Cond.code ⟨"DecimalPatternsModel", "putDigits", "(I)V"⟩ prog_11_method_31_code 9 (Option.none : Option FieldType)) ∈ tbl := tbl_in (i := 890) (by decide +kernel) (by decide +kernel)
theorem tw891 : (Cond.methodLink "DecimalPatternsModel" 137 ⟨"DecimalPatternsModel", "border", "(I)Z"⟩) ∈ tbl := tbl_in (i := 891) (by decide +kernel) (by decide +kernel)
theorem tw893 : (Cond.instanceMethod ⟨"DecimalPatternsModel", "border", "(I)Z"⟩) ∈ tbl := tbl_in (i := 893) (by decide +kernel) (by decide +kernel)
theorem tw894 : (Cond.code ⟨"DecimalPatternsModel", "border", "(I)Z"⟩ prog_11_method_30_code 2 (some .boolean)) ∈ tbl := tbl_in (i := 894) (by decide +kernel) (by decide +kernel)
theorem tw895 : (Cond.methodLink "DecimalPatternsModel" 157 ⟨"DecimalPatternsModel", "putExponent", "(I)V"⟩) ∈ tbl := tbl_in (i := 895) (by decide +kernel) (by decide +kernel)
theorem tw897 : (Cond.instanceMethod ⟨"DecimalPatternsModel", "putExponent", "(I)V"⟩) ∈ tbl := tbl_in (i := 897) (by decide +kernel) (by decide +kernel)
theorem tw898 : (Cond.code ⟨"DecimalPatternsModel", "putExponent", "(I)V"⟩ prog_11_method_32_code 6 (Option.none : Option FieldType)) ∈ tbl := tbl_in (i := 898) (by decide +kernel) (by decide +kernel)
theorem tw919 : (Cond.methodLink "DecimalPatternsModel" 193 ⟨"DecimalPatternsModel", "readAs", "(Z)Z"⟩) ∈ tbl := tbl_in (i := 919) (by decide +kernel) (by decide +kernel)
theorem tw921 : (Cond.instanceMethod ⟨"DecimalPatternsModel", "readAs", "(Z)Z"⟩) ∈ tbl := tbl_in (i := 921) (by decide +kernel) (by decide +kernel)
theorem tw922 : (Cond.code ⟨"DecimalPatternsModel", "readAs", "(Z)Z"⟩ prog_11_method_44_code 4 (some .boolean)) ∈ tbl := tbl_in (i := 922) (by decide +kernel) (by decide +kernel)
theorem tw923 : (Cond.methodLink "DecimalPatternsModel" 179 ⟨"DecimalPatternsModel", "beginning", "(Z)I"⟩) ∈ tbl := tbl_in (i := 923) (by decide +kernel) (by decide +kernel)
theorem tw925 : (Cond.instanceMethod ⟨"DecimalPatternsModel", "beginning", "(Z)I"⟩) ∈ tbl := tbl_in (i := 925) (by decide +kernel) (by decide +kernel)
theorem tw926 : (Cond.code ⟨"DecimalPatternsModel", "beginning", "(Z)I"⟩ prog_11_method_39_code 2 (some .int)) ∈ tbl := tbl_in (i := 926) (by decide +kernel) (by decide +kernel)
theorem tw927 : (Cond.methodLink "DecimalPatternsModel" 183 ⟨"DecimalPatternsModel", "loose", "(II)Z"⟩) ∈ tbl := tbl_in (i := 927) (by decide +kernel) (by decide +kernel)
theorem tw929 : (Cond.instanceMethod ⟨"DecimalPatternsModel", "loose", "(II)Z"⟩) ∈ tbl := tbl_in (i := 929) (by decide +kernel) (by decide +kernel)
theorem tw930 : (Cond.code ⟨"DecimalPatternsModel", "loose", "(II)Z"⟩ prog_11_method_40_code 13 (some .boolean)) ∈ tbl := tbl_in (i := 930) (by decide +kernel) (by decide +kernel)
theorem tw931 : (Cond.methodLink "DecimalPatternsModel" 171 ⟨"DecimalPatternsModel", "push", "(II)Z"⟩) ∈ tbl := tbl_in (i := 931) (by decide +kernel) (by decide +kernel)
theorem tw933 : (Cond.instanceMethod ⟨"DecimalPatternsModel", "push", "(II)Z"⟩) ∈ tbl := tbl_in (i := 933) (by decide +kernel) (by decide +kernel)
theorem tw934 : (Cond.code ⟨"DecimalPatternsModel", "push", "(II)Z"⟩ prog_11_method_41_code 4 (some .boolean)) ∈ tbl := tbl_in (i := 934) (by decide +kernel) (by decide +kernel)
theorem tw935 : (Cond.constantLong "DecimalPatternsModel" 177 922337203685477580) ∈ tbl := tbl_in (i := 935) (by decide +kernel) (by decide +kernel)
theorem tw936 : (Cond.methodLink "DecimalPatternsModel" 186 ⟨"DecimalPatternsModel", "settle", "()Z"⟩) ∈ tbl := tbl_in (i := 936) (by decide +kernel) (by decide +kernel)
theorem tw938 : (Cond.instanceMethod ⟨"DecimalPatternsModel", "settle", "()Z"⟩) ∈ tbl := tbl_in (i := 938) (by decide +kernel) (by decide +kernel)
theorem tw939 : (Cond.code ⟨"DecimalPatternsModel", "settle", "()Z"⟩ prog_11_method_42_code 1 (some .boolean)) ∈ tbl := tbl_in (i := 939) (by decide +kernel) (by decide +kernel)
theorem tw940 : (Cond.methodLink "DecimalPatternsModel" 189 ⟨"DecimalPatternsModel", "isText", "(Z)Z"⟩) ∈ tbl := tbl_in (i := 940) (by decide +kernel) (by decide +kernel)
theorem tw942 : (Cond.instanceMethod ⟨"DecimalPatternsModel", "isText", "(Z)Z"⟩) ∈ tbl := tbl_in (i := 942) (by decide +kernel) (by decide +kernel)
theorem tw943 : (Cond.code ⟨"DecimalPatternsModel", "isText", "(Z)Z"⟩ prog_11_method_43_code 4 (some .boolean)) ∈ tbl := tbl_in (i := 943) (by decide +kernel) (by decide +kernel)
theorem hd_isPlain : y_isPlain.cls ≠ "java/lang/invoke/MethodHandle" ∧ y_isPlain.cls ≠ "java/lang/invoke/VarHandle" ∧ (parseMethodDescriptor y_isPlain.desc).map (fun d => d.parameters.length) = some 1 := by decide +kernel
theorem hd_X_keepFound : y_X_keepFound.cls ≠ "java/lang/invoke/MethodHandle" ∧ y_X_keepFound.cls ≠ "java/lang/invoke/VarHandle" ∧ (parseMethodDescriptor y_X_keepFound.desc).map (fun d => d.parameters.length) = some 2 := by decide +kernel
theorem hd_Am_addOneAt : y_Am_addOneAt.cls ≠ "java/lang/invoke/MethodHandle" ∧ y_Am_addOneAt.cls ≠ "java/lang/invoke/VarHandle" ∧ (parseMethodDescriptor y_Am_addOneAt.desc).map (fun d => d.parameters.length) = some 1 := by decide +kernel
theorem hd_Am_againstHalf : y_Am_againstHalf.cls ≠ "java/lang/invoke/MethodHandle" ∧ y_Am_againstHalf.cls ≠ "java/lang/invoke/VarHandle" ∧ (parseMethodDescriptor y_Am_againstHalf.desc).map (fun d => d.parameters.length) = some 1 := by decide +kernel
theorem hd_Am_anyBelow : y_Am_anyBelow.cls ≠ "java/lang/invoke/MethodHandle" ∧ y_Am_anyBelow.cls ≠ "java/lang/invoke/VarHandle" ∧ (parseMethodDescriptor y_Am_anyBelow.desc).map (fun d => d.parameters.length) = some 1 := by decide +kernel
theorem hd_Am_clearBelow : y_Am_clearBelow.cls ≠ "java/lang/invoke/MethodHandle" ∧ y_Am_clearBelow.cls ≠ "java/lang/invoke/VarHandle" ∧ (parseMethodDescriptor y_Am_clearBelow.desc).map (fun d => d.parameters.length) = some 1 := by decide +kernel
theorem hd_Am_digit : y_Am_digit.cls ≠ "java/lang/invoke/MethodHandle" ∧ y_Am_digit.cls ≠ "java/lang/invoke/VarHandle" ∧ (parseMethodDescriptor y_Am_digit.desc).map (fun d => d.parameters.length) = some 1 := by decide +kernel
theorem hd_Am_fill : y_Am_fill.cls ≠ "java/lang/invoke/MethodHandle" ∧ y_Am_fill.cls ≠ "java/lang/invoke/VarHandle" ∧ (parseMethodDescriptor y_Am_fill.desc).map (fun d => d.parameters.length) = some 3 := by decide +kernel
theorem hd_Am_firstPower : y_Am_firstPower.cls ≠ "java/lang/invoke/MethodHandle" ∧ y_Am_firstPower.cls ≠ "java/lang/invoke/VarHandle" ∧ (parseMethodDescriptor y_Am_firstPower.desc).map (fun d => d.parameters.length) = some 0 := by decide +kernel
theorem hd_Am_goesUp : y_Am_goesUp.cls ≠ "java/lang/invoke/MethodHandle" ∧ y_Am_goesUp.cls ≠ "java/lang/invoke/VarHandle" ∧ (parseMethodDescriptor y_Am_goesUp.desc).map (fun d => d.parameters.length) = some 3 := by decide +kernel
theorem hd_Am_isZero : y_Am_isZero.cls ≠ "java/lang/invoke/MethodHandle" ∧ y_Am_isZero.cls ≠ "java/lang/invoke/VarHandle" ∧ (parseMethodDescriptor y_Am_isZero.desc).map (fun d => d.parameters.length) = some 0 := by decide +kernel
theorem hd_Am_lastPower : y_Am_lastPower.cls ≠ "java/lang/invoke/MethodHandle" ∧ y_Am_lastPower.cls ≠ "java/lang/invoke/VarHandle" ∧ (parseMethodDescriptor y_Am_lastPower.desc).map (fun d => d.parameters.length) = some 0 := by decide +kernel
theorem hd_Am_put : y_Am_put.cls ≠ "java/lang/invoke/MethodHandle" ∧ y_Am_put.cls ≠ "java/lang/invoke/VarHandle" ∧ (parseMethodDescriptor y_Am_put.desc).map (fun d => d.parameters.length) = some 2 := by decide +kernel
theorem hd_Am_roundTo : y_Am_roundTo.cls ≠ "java/lang/invoke/MethodHandle" ∧ y_Am_roundTo.cls ≠ "java/lang/invoke/VarHandle" ∧ (parseMethodDescriptor y_Am_roundTo.desc).map (fun d => d.parameters.length) = some 3 := by decide +kernel
theorem hd_Fi_append : y_Fi_append.cls ≠ "java/lang/invoke/MethodHandle" ∧ y_Fi_append.cls ≠ "java/lang/invoke/VarHandle" ∧ (parseMethodDescriptor y_Fi_append.desc).map (fun d => d.parameters.length) = some 1 := by decide +kernel
theorem hd_Fi_begin : y_Fi_begin.cls ≠ "java/lang/invoke/MethodHandle" ∧ y_Fi_begin.cls ≠ "java/lang/invoke/VarHandle" ∧ (parseMethodDescriptor y_Fi_begin.desc).map (fun d => d.parameters.length) = some 0 := by decide +kernel
theorem hd_Fi_enter : y_Fi_enter.cls ≠ "java/lang/invoke/MethodHandle" ∧ y_Fi_enter.cls ≠ "java/lang/invoke/VarHandle" ∧ (parseMethodDescriptor y_Fi_enter.desc).map (fun d => d.parameters.length) = some 1 := by decide +kernel
theorem hd_Fi_find : y_Fi_find.cls ≠ "java/lang/invoke/MethodHandle" ∧ y_Fi_find.cls ≠ "java/lang/invoke/VarHandle" ∧ (parseMethodDescriptor y_Fi_find.desc).map (fun d => d.parameters.length) = some 3 := by decide +kernel
theorem hd_Fi_gather : y_Fi_gather.cls ≠ "java/lang/invoke/MethodHandle" ∧ y_Fi_gather.cls ≠ "java/lang/invoke/VarHandle" ∧ (parseMethodDescriptor y_Fi_gather.desc).map (fun d => d.parameters.length) = some 3 := by decide +kernel
theorem hd_Fi_settle : y_Fi_settle.cls ≠ "java/lang/invoke/MethodHandle" ∧ y_Fi_settle.cls ≠ "java/lang/invoke/VarHandle" ∧ (parseMethodDescriptor y_Fi_settle.desc).map (fun d => d.parameters.length) = some 1 := by decide +kernel
theorem hd_Fi_take : y_Fi_take.cls ≠ "java/lang/invoke/MethodHandle" ∧ y_Fi_take.cls ≠ "java/lang/invoke/VarHandle" ∧ (parseMethodDescriptor y_Fi_take.desc).map (fun d => d.parameters.length) = some 1 := by decide +kernel
theorem hd_Fi_takeDigit : y_Fi_takeDigit.cls ≠ "java/lang/invoke/MethodHandle" ∧ y_Fi_takeDigit.cls ≠ "java/lang/invoke/VarHandle" ∧ (parseMethodDescriptor y_Fi_takeDigit.desc).map (fun d => d.parameters.length) = some 1 := by decide +kernel
theorem hd_Fi_takeZerosBehind : y_Fi_takeZerosBehind.cls ≠ "java/lang/invoke/MethodHandle" ∧ y_Fi_takeZerosBehind.cls ≠ "java/lang/invoke/VarHandle" ∧ (parseMethodDescriptor y_Fi_takeZerosBehind.desc).map (fun d => d.parameters.length) = some 0 := by decide +kernel
theorem hd_Pat_affixesFor : y_Pat_affixesFor.cls ≠ "java/lang/invoke/MethodHandle" ∧ y_Pat_affixesFor.cls ≠ "java/lang/invoke/VarHandle" ∧ (parseMethodDescriptor y_Pat_affixesFor.desc).map (fun d => d.parameters.length) = some 1 := by decide +kernel
theorem hd_Pat_clear : y_Pat_clear.cls ≠ "java/lang/invoke/MethodHandle" ∧ y_Pat_clear.cls ≠ "java/lang/invoke/VarHandle" ∧ (parseMethodDescriptor y_Pat_clear.desc).map (fun d => d.parameters.length) = some 0 := by decide +kernel
theorem hd_Pat_needsMinus : y_Pat_needsMinus.cls ≠ "java/lang/invoke/MethodHandle" ∧ y_Pat_needsMinus.cls ≠ "java/lang/invoke/VarHandle" ∧ (parseMethodDescriptor y_Pat_needsMinus.desc).map (fun d => d.parameters.length) = some 1 := by decide +kernel
theorem hd_Mk_beginSub : y_Mk_beginSub.cls ≠ "java/lang/invoke/MethodHandle" ∧ y_Mk_beginSub.cls ≠ "java/lang/invoke/VarHandle" ∧ (parseMethodDescriptor y_Mk_beginSub.desc).map (fun d => d.parameters.length) = some 1 := by decide +kernel
theorem hd_Mk_enterAffix : y_Mk_enterAffix.cls ≠ "java/lang/invoke/MethodHandle" ∧ y_Mk_enterAffix.cls ≠ "java/lang/invoke/VarHandle" ∧ (parseMethodDescriptor y_Mk_enterAffix.desc).map (fun d => d.parameters.length) = some 0 := by decide +kernel
theorem hd_Mk_inInteger : y_Mk_inInteger.cls ≠ "java/lang/invoke/MethodHandle" ∧ y_Mk_inInteger.cls ≠ "java/lang/invoke/VarHandle" ∧ (parseMethodDescriptor y_Mk_inInteger.desc).map (fun d => d.parameters.length) = some 0 := by decide +kernel
theorem hd_Mk_make : y_Mk_make.cls ≠ "java/lang/invoke/MethodHandle" ∧ y_Mk_make.cls ≠ "java/lang/invoke/VarHandle" ∧ (parseMethodDescriptor y_Mk_make.desc).map (fun d => d.parameters.length) = some 2 := by decide +kernel
theorem hd_Mk_numberEnded : y_Mk_numberEnded.cls ≠ "java/lang/invoke/MethodHandle" ∧ y_Mk_numberEnded.cls ≠ "java/lang/invoke/VarHandle" ∧ (parseMethodDescriptor y_Mk_numberEnded.desc).map (fun d => d.parameters.length) = some 0 := by decide +kernel
theorem hd_Mk_openAffix : y_Mk_openAffix.cls ≠ "java/lang/invoke/MethodHandle" ∧ y_Mk_openAffix.cls ≠ "java/lang/invoke/VarHandle" ∧ (parseMethodDescriptor y_Mk_openAffix.desc).map (fun d => d.parameters.length) = some 0 := by decide +kernel
theorem hd_Mk_take : y_Mk_take.cls ≠ "java/lang/invoke/MethodHandle" ∧ y_Mk_take.cls ≠ "java/lang/invoke/VarHandle" ∧ (parseMethodDescriptor y_Mk_take.desc).map (fun d => d.parameters.length) = some 1 := by decide +kernel
theorem hd_Mk_takeAffix : y_Mk_takeAffix.cls ≠ "java/lang/invoke/MethodHandle" ∧ y_Mk_takeAffix.cls ≠ "java/lang/invoke/VarHandle" ∧ (parseMethodDescriptor y_Mk_takeAffix.desc).map (fun d => d.parameters.length) = some 1 := by decide +kernel
theorem hd_Mk_takeComma : y_Mk_takeComma.cls ≠ "java/lang/invoke/MethodHandle" ∧ y_Mk_takeComma.cls ≠ "java/lang/invoke/VarHandle" ∧ (parseMethodDescriptor y_Mk_takeComma.desc).map (fun d => d.parameters.length) = some 0 := by decide +kernel
theorem hd_Mk_takeE : y_Mk_takeE.cls ≠ "java/lang/invoke/MethodHandle" ∧ y_Mk_takeE.cls ≠ "java/lang/invoke/VarHandle" ∧ (parseMethodDescriptor y_Mk_takeE.desc).map (fun d => d.parameters.length) = some 0 := by decide +kernel
theorem hd_Mk_takeFractionZero : y_Mk_takeFractionZero.cls ≠ "java/lang/invoke/MethodHandle" ∧ y_Mk_takeFractionZero.cls ≠ "java/lang/invoke/VarHandle" ∧ (parseMethodDescriptor y_Mk_takeFractionZero.desc).map (fun d => d.parameters.length) = some 0 := by decide +kernel
theorem hd_Mk_takeHash : y_Mk_takeHash.cls ≠ "java/lang/invoke/MethodHandle" ∧ y_Mk_takeHash.cls ≠ "java/lang/invoke/VarHandle" ∧ (parseMethodDescriptor y_Mk_takeHash.desc).map (fun d => d.parameters.length) = some 0 := by decide +kernel
theorem hd_Mk_takePlus : y_Mk_takePlus.cls ≠ "java/lang/invoke/MethodHandle" ∧ y_Mk_takePlus.cls ≠ "java/lang/invoke/VarHandle" ∧ (parseMethodDescriptor y_Mk_takePlus.desc).map (fun d => d.parameters.length) = some 0 := by decide +kernel
theorem hd_Mk_takePoint : y_Mk_takePoint.cls ≠ "java/lang/invoke/MethodHandle" ∧ y_Mk_takePoint.cls ≠ "java/lang/invoke/VarHandle" ∧ (parseMethodDescriptor y_Mk_takePoint.desc).map (fun d => d.parameters.length) = some 0 := by decide +kernel
theorem hd_Mk_takeQuoted : y_Mk_takeQuoted.cls ≠ "java/lang/invoke/MethodHandle" ∧ y_Mk_takeQuoted.cls ≠ "java/lang/invoke/VarHandle" ∧ (parseMethodDescriptor y_Mk_takeQuoted.desc).map (fun d => d.parameters.length) = some 1 := by decide +kernel
theorem hd_Mk_takeSemicolon : y_Mk_takeSemicolon.cls ≠ "java/lang/invoke/MethodHandle" ∧ y_Mk_takeSemicolon.cls ≠ "java/lang/invoke/VarHandle" ∧ (parseMethodDescriptor y_Mk_takeSemicolon.desc).map (fun d => d.parameters.length) = some 0 := by decide +kernel
theorem hd_Mk_takeZero : y_Mk_takeZero.cls ≠ "java/lang/invoke/MethodHandle" ∧ y_Mk_takeZero.cls ≠ "java/lang/invoke/VarHandle" ∧ (parseMethodDescriptor y_Mk_takeZero.desc).map (fun d => d.parameters.length) = some 0 := by decide +kernel
theorem hd_Row_add : y_Row_add.cls ≠ "java/lang/invoke/MethodHandle" ∧ y_Row_add.cls ≠ "java/lang/invoke/VarHandle" ∧ (parseMethodDescriptor y_Row_add.desc).map (fun d => d.parameters.length) = some 1 := by decide +kernel
theorem hd_Row_clear : y_Row_clear.cls ≠ "java/lang/invoke/MethodHandle" ∧ y_Row_clear.cls ≠ "java/lang/invoke/VarHandle" ∧ (parseMethodDescriptor y_Row_clear.desc).map (fun d => d.parameters.length) = some 0 := by decide +kernel
theorem hd_Row_code : y_Row_code.cls ≠ "java/lang/invoke/MethodHandle" ∧ y_Row_code.cls ≠ "java/lang/invoke/VarHandle" ∧ (parseMethodDescriptor y_Row_code.desc).map (fun d => d.parameters.length) = some 1 := by decide +kernel
theorem hd_Row_copyFrom : y_Row_copyFrom.cls ≠ "java/lang/invoke/MethodHandle" ∧ y_Row_copyFrom.cls ≠ "java/lang/invoke/VarHandle" ∧ (parseMethodDescriptor y_Row_copyFrom.desc).map (fun d => d.parameters.length) = some 1 := by decide +kernel
theorem hd_Row_has : y_Row_has.cls ≠ "java/lang/invoke/MethodHandle" ∧ y_Row_has.cls ≠ "java/lang/invoke/VarHandle" ∧ (parseMethodDescriptor y_Row_has.desc).map (fun d => d.parameters.length) = some 1 := by decide +kernel
theorem hd_Row_isSameAs : y_Row_isSameAs.cls ≠ "java/lang/invoke/MethodHandle" ∧ y_Row_isSameAs.cls ≠ "java/lang/invoke/VarHandle" ∧ (parseMethodDescriptor y_Row_isSameAs.desc).map (fun d => d.parameters.length) = some 1 := by decide +kernel
theorem hd_Sc_compose : y_Sc_compose.cls ≠ "java/lang/invoke/MethodHandle" ∧ y_Sc_compose.cls ≠ "java/lang/invoke/VarHandle" ∧ (parseMethodDescriptor y_Sc_compose.desc).map (fun d => d.parameters.length) = some 5 := by decide +kernel
theorem hd_Sc_digitAt : y_Sc_digitAt.cls ≠ "java/lang/invoke/MethodHandle" ∧ y_Sc_digitAt.cls ≠ "java/lang/invoke/VarHandle" ∧ (parseMethodDescriptor y_Sc_digitAt.desc).map (fun d => d.parameters.length) = some 2 := by decide +kernel
theorem hd_Sc_exponentFor : y_Sc_exponentFor.cls ≠ "java/lang/invoke/MethodHandle" ∧ y_Sc_exponentFor.cls ≠ "java/lang/invoke/VarHandle" ∧ (parseMethodDescriptor y_Sc_exponentFor.desc).map (fun d => d.parameters.length) = some 1 := by decide +kernel
theorem hd_Sc_putAffix : y_Sc_putAffix.cls ≠ "java/lang/invoke/MethodHandle" ∧ y_Sc_putAffix.cls ≠ "java/lang/invoke/VarHandle" ∧ (parseMethodDescriptor y_Sc_putAffix.desc).map (fun d => d.parameters.length) = some 1 := by decide +kernel
theorem hd_Sc_putDigit : y_Sc_putDigit.cls ≠ "java/lang/invoke/MethodHandle" ∧ y_Sc_putDigit.cls ≠ "java/lang/invoke/VarHandle" ∧ (parseMethodDescriptor y_Sc_putDigit.desc).map (fun d => d.parameters.length) = some 1 := by decide +kernel
theorem hd_Sc_putDigits : y_Sc_putDigits.cls ≠ "java/lang/invoke/MethodHandle" ∧ y_Sc_putDigits.cls ≠ "java/lang/invoke/VarHandle" ∧ (parseMethodDescriptor y_Sc_putDigits.desc).map (fun d => d.parameters.length) = some 2 := by decide +kernel
theorem hd_Sc_putExponent : y_Sc_putExponent.cls ≠ "java/lang/invoke/MethodHandle" ∧ y_Sc_putExponent.cls ≠ "java/lang/invoke/VarHandle" ∧ (parseMethodDescriptor y_Sc_putExponent.desc).map (fun d => d.parameters.length) = some 2 := by decide +kernel
theorem hd_Sc_putSymbol : y_Sc_putSymbol.cls ≠ "java/lang/invoke/MethodHandle" ∧ y_Sc_putSymbol.cls ≠ "java/lang/invoke/VarHandle" ∧ (parseMethodDescriptor y_Sc_putSymbol.desc).map (fun d => d.parameters.length) = some 1 := by decide +kernel
theorem hd_Sc_putWhole : y_Sc_putWhole.cls ≠ "java/lang/invoke/MethodHandle" ∧ y_Sc_putWhole.cls ≠ "java/lang/invoke/VarHandle" ∧ (parseMethodDescriptor y_Sc_putWhole.desc).map (fun d => d.parameters.length) = some 3 := by decide +kernel
theorem hd_Sc_roundingPower : y_Sc_roundingPower.cls ≠ "java/lang/invoke/MethodHandle" ∧ y_Sc_roundingPower.cls ≠ "java/lang/invoke/VarHandle" ∧ (parseMethodDescriptor y_Sc_roundingPower.desc).map (fun d => d.parameters.length) = some 1 := by decide +kernel
theorem hd_Sc_widthOf : y_Sc_widthOf.cls ≠ "java/lang/invoke/MethodHandle" ∧ y_Sc_widthOf.cls ≠ "java/lang/invoke/VarHandle" ∧ (parseMethodDescriptor y_Sc_widthOf.desc).map (fun d => d.parameters.length) = some 1 := by decide +kernel
theorem hd_Sub_clear : y_Sub_clear.cls ≠ "java/lang/invoke/MethodHandle" ∧ y_Sub_clear.cls ≠ "java/lang/invoke/VarHandle" ∧ (parseMethodDescriptor y_Sub_clear.desc).map (fun d => d.parameters.length) = some 0 := by decide +kernel
theorem hd_Sub_groupsBefore : y_Sub_groupsBefore.cls ≠ "java/lang/invoke/MethodHandle" ∧ y_Sub_groupsBefore.cls ≠ "java/lang/invoke/VarHandle" ∧ (parseMethodDescriptor y_Sub_groupsBefore.desc).map (fun d => d.parameters.length) = some 1 := by decide +kernel
theorem hd_Sub_hasExponent : y_Sub_hasExponent.cls ≠ "java/lang/invoke/MethodHandle" ∧ y_Sub_hasExponent.cls ≠ "java/lang/invoke/VarHandle" ∧ (parseMethodDescriptor y_Sub_hasExponent.desc).map (fun d => d.parameters.length) = some 0 := by decide +kernel
theorem hd_Sym_areSound : y_Sym_areSound.cls ≠ "java/lang/invoke/MethodHandle" ∧ y_Sym_areSound.cls ≠ "java/lang/invoke/VarHandle" ∧ (parseMethodDescriptor y_Sym_areSound.desc).map (fun d => d.parameters.length) = some 0 := by decide +kernel
theorem hd_Sym_change : y_Sym_change.cls ≠ "java/lang/invoke/MethodHandle" ∧ y_Sym_change.cls ≠ "java/lang/invoke/VarHandle" ∧ (parseMethodDescriptor y_Sym_change.desc).map (fun d => d.parameters.length) = some 2 := by decide +kernel
theorem hd_Sym_code : y_Sym_code.cls ≠ "java/lang/invoke/MethodHandle" ∧ y_Sym_code.cls ≠ "java/lang/invoke/VarHandle" ∧ (parseMethodDescriptor y_Sym_code.desc).map (fun d => d.parameters.length) = some 1 := by decide +kernel
theorem hd_Sym_digitCode : y_Sym_digitCode.cls ≠ "java/lang/invoke/MethodHandle" ∧ y_Sym_digitCode.cls ≠ "java/lang/invoke/VarHandle" ∧ (parseMethodDescriptor y_Sym_digitCode.desc).map (fun d => d.parameters.length) = some 1 := by decide +kernel
theorem hd_Sym_digitOf : y_Sym_digitOf.cls ≠ "java/lang/invoke/MethodHandle" ∧ y_Sym_digitOf.cls ≠ "java/lang/invoke/VarHandle" ∧ (parseMethodDescriptor y_Sym_digitOf.desc).map (fun d => d.parameters.length) = some 1 := by decide +kernel
theorem hd_Sym_standsBefore : y_Sym_standsBefore.cls ≠ "java/lang/invoke/MethodHandle" ∧ y_Sym_standsBefore.cls ≠ "java/lang/invoke/VarHandle" ∧ (parseMethodDescriptor y_Sym_standsBefore.desc).map (fun d => d.parameters.length) = some 2 := by decide +kernel
theorem hd_M_begin : y_M_begin.cls ≠ "java/lang/invoke/MethodHandle" ∧ y_M_begin.cls ≠ "java/lang/invoke/VarHandle" ∧ (parseMethodDescriptor y_M_begin.desc).map (fun d => d.parameters.length) = some 1 := by decide +kernel
theorem hd_M_beginning : y_M_beginning.cls ≠ "java/lang/invoke/MethodHandle" ∧ y_M_beginning.cls ≠ "java/lang/invoke/VarHandle" ∧ (parseMethodDescriptor y_M_beginning.desc).map (fun d => d.parameters.length) = some 1 := by decide +kernel
theorem hd_M_behind : y_M_behind.cls ≠ "java/lang/invoke/MethodHandle" ∧ y_M_behind.cls ≠ "java/lang/invoke/VarHandle" ∧ (parseMethodDescriptor y_M_behind.desc).map (fun d => d.parameters.length) = some 1 := by decide +kernel
theorem hd_M_below : y_M_below.cls ≠ "java/lang/invoke/MethodHandle" ∧ y_M_below.cls ≠ "java/lang/invoke/VarHandle" ∧ (parseMethodDescriptor y_M_below.desc).map (fun d => d.parameters.length) = some 1 := by decide +kernel
theorem hd_M_border : y_M_border.cls ≠ "java/lang/invoke/MethodHandle" ∧ y_M_border.cls ≠ "java/lang/invoke/VarHandle" ∧ (parseMethodDescriptor y_M_border.desc).map (fun d => d.parameters.length) = some 1 := by decide +kernel
theorem hd_M_copy : y_M_copy.cls ≠ "java/lang/invoke/MethodHandle" ∧ y_M_copy.cls ≠ "java/lang/invoke/VarHandle" ∧ (parseMethodDescriptor y_M_copy.desc).map (fun d => d.parameters.length) = some 2 := by decide +kernel
theorem hd_M_digitAt : y_M_digitAt.cls ≠ "java/lang/invoke/MethodHandle" ∧ y_M_digitAt.cls ≠ "java/lang/invoke/VarHandle" ∧ (parseMethodDescriptor y_M_digitAt.desc).map (fun d => d.parameters.length) = some 1 := by decide +kernel
theorem hd_M_floorOf : y_M_floorOf.cls ≠ "java/lang/invoke/MethodHandle" ∧ y_M_floorOf.cls ≠ "java/lang/invoke/VarHandle" ∧ (parseMethodDescriptor y_M_floorOf.desc).map (fun d => d.parameters.length) = some 2 := by decide +kernel
theorem hd_M_inFraction : y_M_inFraction.cls ≠ "java/lang/invoke/MethodHandle" ∧ y_M_inFraction.cls ≠ "java/lang/invoke/VarHandle" ∧ (parseMethodDescriptor y_M_inFraction.desc).map (fun d => d.parameters.length) = some 1 := by decide +kernel
theorem hd_M_inNumber : y_M_inNumber.cls ≠ "java/lang/invoke/MethodHandle" ∧ y_M_inNumber.cls ≠ "java/lang/invoke/VarHandle" ∧ (parseMethodDescriptor y_M_inNumber.desc).map (fun d => d.parameters.length) = some 1 := by decide +kernel
theorem hd_M_inQuote : y_M_inQuote.cls ≠ "java/lang/invoke/MethodHandle" ∧ y_M_inQuote.cls ≠ "java/lang/invoke/VarHandle" ∧ (parseMethodDescriptor y_M_inQuote.desc).map (fun d => d.parameters.length) = some 2 := by decide +kernel
theorem hd_M_integerDigit : y_M_integerDigit.cls ≠ "java/lang/invoke/MethodHandle" ∧ y_M_integerDigit.cls ≠ "java/lang/invoke/VarHandle" ∧ (parseMethodDescriptor y_M_integerDigit.desc).map (fun d => d.parameters.length) = some 1 := by decide +kernel
theorem hd_M_isText : y_M_isText.cls ≠ "java/lang/invoke/MethodHandle" ∧ y_M_isText.cls ≠ "java/lang/invoke/VarHandle" ∧ (parseMethodDescriptor y_M_isText.desc).map (fun d => d.parameters.length) = some 1 := by decide +kernel
theorem hd_M_keep : y_M_keep.cls ≠ "java/lang/invoke/MethodHandle" ∧ y_M_keep.cls ≠ "java/lang/invoke/VarHandle" ∧ (parseMethodDescriptor y_M_keep.desc).map (fun d => d.parameters.length) = some 1 := by decide +kernel
theorem hd_M_load : y_M_load.cls ≠ "java/lang/invoke/MethodHandle" ∧ y_M_load.cls ≠ "java/lang/invoke/VarHandle" ∧ (parseMethodDescriptor y_M_load.desc).map (fun d => d.parameters.length) = some 2 := by decide +kernel
theorem hd_M_loose : y_M_loose.cls ≠ "java/lang/invoke/MethodHandle" ∧ y_M_loose.cls ≠ "java/lang/invoke/VarHandle" ∧ (parseMethodDescriptor y_M_loose.desc).map (fun d => d.parameters.length) = some 2 := by decide +kernel
theorem hd_M_percent : y_M_percent.cls ≠ "java/lang/invoke/MethodHandle" ∧ y_M_percent.cls ≠ "java/lang/invoke/VarHandle" ∧ (parseMethodDescriptor y_M_percent.desc).map (fun d => d.parameters.length) = some 0 := by decide +kernel
theorem hd_M_plainAffix : y_M_plainAffix.cls ≠ "java/lang/invoke/MethodHandle" ∧ y_M_plainAffix.cls ≠ "java/lang/invoke/VarHandle" ∧ (parseMethodDescriptor y_M_plainAffix.desc).map (fun d => d.parameters.length) = some 2 := by decide +kernel
theorem hd_M_power : y_M_power.cls ≠ "java/lang/invoke/MethodHandle" ∧ y_M_power.cls ≠ "java/lang/invoke/VarHandle" ∧ (parseMethodDescriptor y_M_power.desc).map (fun d => d.parameters.length) = some 0 := by decide +kernel
theorem hd_M_push : y_M_push.cls ≠ "java/lang/invoke/MethodHandle" ∧ y_M_push.cls ≠ "java/lang/invoke/VarHandle" ∧ (parseMethodDescriptor y_M_push.desc).map (fun d => d.parameters.length) = some 2 := by decide +kernel
theorem hd_M_put : y_M_put.cls ≠ "java/lang/invoke/MethodHandle" ∧ y_M_put.cls ≠ "java/lang/invoke/VarHandle" ∧ (parseMethodDescriptor y_M_put.desc).map (fun d => d.parameters.length) = some 1 := by decide +kernel
theorem hd_M_putAffix : y_M_putAffix.cls ≠ "java/lang/invoke/MethodHandle" ∧ y_M_putAffix.cls ≠ "java/lang/invoke/VarHandle" ∧ (parseMethodDescriptor y_M_putAffix.desc).map (fun d => d.parameters.length) = some 1 := by decide +kernel
theorem hd_M_putDigits : y_M_putDigits.cls ≠ "java/lang/invoke/MethodHandle" ∧ y_M_putDigits.cls ≠ "java/lang/invoke/VarHandle" ∧ (parseMethodDescriptor y_M_putDigits.desc).map (fun d => d.parameters.length) = some 1 := by decide +kernel
theorem hd_M_putExponent : y_M_putExponent.cls ≠ "java/lang/invoke/MethodHandle" ∧ y_M_putExponent.cls ≠ "java/lang/invoke/VarHandle" ∧ (parseMethodDescriptor y_M_putExponent.desc).map (fun d => d.parameters.length) = some 1 := by decide +kernel
theorem hd_M_readAs : y_M_readAs.cls ≠ "java/lang/invoke/MethodHandle" ∧ y_M_readAs.cls ≠ "java/lang/invoke/VarHandle" ∧ (parseMethodDescriptor y_M_readAs.desc).map (fun d => d.parameters.length) = some 1 := by decide +kernel
theorem hd_M_render : y_M_render.cls ≠ "java/lang/invoke/MethodHandle" ∧ y_M_render.cls ≠ "java/lang/invoke/VarHandle" ∧ (parseMethodDescriptor y_M_render.desc).map (fun d => d.parameters.length) = some 4 := by decide +kernel
theorem hd_M_round : y_M_round.cls ≠ "java/lang/invoke/MethodHandle" ∧ y_M_round.cls ≠ "java/lang/invoke/VarHandle" ∧ (parseMethodDescriptor y_M_round.desc).map (fun d => d.parameters.length) = some 3 := by decide +kernel
theorem hd_M_settle : y_M_settle.cls ≠ "java/lang/invoke/MethodHandle" ∧ y_M_settle.cls ≠ "java/lang/invoke/VarHandle" ∧ (parseMethodDescriptor y_M_settle.desc).map (fun d => d.parameters.length) = some 0 := by decide +kernel
theorem hd_M_sign : y_M_sign.cls ≠ "java/lang/invoke/MethodHandle" ∧ y_M_sign.cls ≠ "java/lang/invoke/VarHandle" ∧ (parseMethodDescriptor y_M_sign.desc).map (fun d => d.parameters.length) = some 1 := by decide +kernel
theorem hd_M_special : y_M_special.cls ≠ "java/lang/invoke/MethodHandle" ∧ y_M_special.cls ≠ "java/lang/invoke/VarHandle" ∧ (parseMethodDescriptor y_M_special.desc).map (fun d => d.parameters.length) = some 1 := by decide +kernel
theorem hd_M_step : y_M_step.cls ≠ "java/lang/invoke/MethodHandle" ∧ y_M_step.cls ≠ "java/lang/invoke/VarHandle" ∧ (parseMethodDescriptor y_M_step.desc).map (fun d => d.parameters.length) = some 1 := by decide +kernel
theorem hd_M_top : y_M_top.cls ≠ "java/lang/invoke/MethodHandle" ∧ y_M_top.cls ≠ "java/lang/invoke/VarHandle" ∧ (parseMethodDescriptor y_M_top.desc).map (fun d => d.parameters.length) = some 0 := by decide +kernel
theorem hd_M_upwards : y_M_upwards.cls ≠ "java/lang/invoke/MethodHandle" ∧ y_M_upwards.cls ≠ "java/lang/invoke/VarHandle" ∧ (parseMethodDescriptor y_M_upwards.desc).map (fun d => d.parameters.length) = some 3 := by decide +kernel
theorem hd_floorDiv : y_floorDiv.cls ≠ "java/lang/invoke/MethodHandle" ∧ y_floorDiv.cls ≠ "java/lang/invoke/VarHandle" ∧ (parseMethodDescriptor y_floorDiv.desc).map (fun d => d.parameters.length) = some 2 := by decide +kernel
end
section
def wd_Nil (cA : ClassId)  : va_W := []
def wd_Row (cA : ClassId) (rw rw_a : Nat) (rw_N : Nat) (rw_n : Int32) (rw_f : Nat → Int32) : va_W := [(rw, .inr (4, [.ref rw_a, .int rw_n])), (rw_a, .inl (cA, rw_N, .inl rw_f))]
def wd_Row2 (cA : ClassId) (rw rw_a ot ot_a : Nat) (rw_N ot_N : Nat) (rw_n : Int32) (rw_f : Nat → Int32) (ot_n : Int32) (ot_f : Nat → Int32) : va_W := [(rw, .inr (4, [.ref rw_a, .int rw_n])), (rw_a, .inl (cA, rw_N, .inl rw_f)), (ot, .inr (4, [.ref ot_a, .int ot_n])), (ot_a, .inl (cA, ot_N, .inl ot_f))]
def wd_Sym (cA : ClassId) (sy sy_a : Nat) (sy_l : Int32) (sy_f : Nat → Int32) : va_W := [(sy, .inr (7, [.ref sy_a, .int sy_l])), (sy_a, .inl (cA, 6, .inl sy_f))]
def wd_SubO (cA : ClassId) (sb sb_p sb_s : Nat) (sb_pm : Bool) (sb_h : Int32) (sb_z : Int32) (sb_c : Int32) (sb_b : Int32) (sb_t : Int32) (sb_f : Int32) (sb_q : Int32) (sb_e : Int32) (sb_x : Bool) : va_W := [(sb, .inr (6, [.ref sb_p, .ref sb_s, .int (bI sb_pm), .int sb_h, .int sb_z, .int sb_c, .int sb_b, .int sb_t, .int sb_f, .int sb_q, .int sb_e, .int (bI sb_x)]))]
def wd_Sub (cA : ClassId) (sb sb_p sb_p_a sb_s sb_s_a : Nat) (sb_pm : Bool) (sb_h : Int32) (sb_z : Int32) (sb_c : Int32) (sb_b : Int32) (sb_t : Int32) (sb_f : Int32) (sb_q : Int32) (sb_e : Int32) (sb_x : Bool) (sb_p_n : Int32) (sb_p_f : Nat → Int32) (sb_s_n : Int32) (sb_s_f : Nat → Int32) : va_W := [(sb, .inr (6, [.ref sb_p, .ref sb_s, .int (bI sb_pm), .int sb_h, .int sb_z, .int sb_c, .int sb_b, .int sb_t, .int sb_f, .int sb_q, .int sb_e, .int (bI sb_x)])), (sb_p, .inr (4, [.ref sb_p_a, .int sb_p_n])), (sb_p_a, .inl (cA, 40, .inl sb_p_f)), (sb_s, .inr (4, [.ref sb_s_a, .int sb_s_n])), (sb_s_a, .inl (cA, 40, .inl sb_s_f))]
def wd_PatO (cA : ClassId) (pt pl mi : Nat) (pt_h : Bool) : va_W := [(pt, .inr (2, [.ref pl, .ref mi, .int (bI pt_h)]))]
def wd_Pat (cA : ClassId) (pt pl pl_p pl_p_a pl_s pl_s_a mi mi_p mi_p_a mi_s mi_s_a : Nat) (pt_h : Bool) (pl_pm : Bool) (pl_h : Int32) (pl_z : Int32) (pl_c : Int32) (pl_b : Int32) (pl_t : Int32) (pl_f : Int32) (pl_q : Int32) (pl_e : Int32) (pl_x : Bool) (pl_p_n : Int32) (pl_p_f : Nat → Int32) (pl_s_n : Int32) (pl_s_f : Nat → Int32) (mi_pm : Bool) (mi_h : Int32) (mi_z : Int32) (mi_c : Int32) (mi_b : Int32) (mi_t : Int32) (mi_f : Int32) (mi_q : Int32) (mi_e : Int32) (mi_x : Bool) (mi_p_n : Int32) (mi_p_f : Nat → Int32) (mi_s_n : Int32) (mi_s_f : Nat → Int32) : va_W := [(pt, .inr (2, [.ref pl, .ref mi, .int (bI pt_h)])), (pl, .inr (6, [.ref pl_p, .ref pl_s, .int (bI pl_pm), .int pl_h, .int pl_z, .int pl_c, .int pl_b, .int pl_t, .int pl_f, .int pl_q, .int pl_e, .int (bI pl_x)])), (pl_p, .inr (4, [.ref pl_p_a, .int pl_p_n])), (pl_p_a, .inl (cA, 40, .inl pl_p_f)), (pl_s, .inr (4, [.ref pl_s_a, .int pl_s_n])), (pl_s_a, .inl (cA, 40, .inl pl_s_f)), (mi, .inr (6, [.ref mi_p, .ref mi_s, .int (bI mi_pm), .int mi_h, .int mi_z, .int mi_c, .int mi_b, .int mi_t, .int mi_f, .int mi_q, .int mi_e, .int (bI mi_x)])), (mi_p, .inr (4, [.ref mi_p_a, .int mi_p_n])), (mi_p_a, .inl (cA, 40, .inl mi_p_f)), (mi_s, .inr (4, [.ref mi_s_a, .int mi_s_n])), (mi_s_a, .inl (cA, 40, .inl mi_s_f))]
def wd_MkO (cA : ClassId) (mk mk_g : Nat) (mk_s : Nat) (mk_st : Int32) (mk_qd : Bool) (mk_qe : Bool) : va_W := [(mk, .inr (3, [.ref mk_g, .ref mk_s, .int mk_st, .int (bI mk_qd), .int (bI mk_qe)]))]
def wd_MkN (cA : ClassId) (mk mk_g nx : Nat) (mk_s : Nat) (mk_st : Int32) (mk_qd : Bool) (mk_qe : Bool) : va_W := [(mk, .inr (3, [.ref mk_g, .ref mk_s, .int mk_st, .int (bI mk_qd), .int (bI mk_qe)]))]
def wd_MkSub (cA : ClassId) (mk sb mk_g sb_p sb_s : Nat) (mk_st : Int32) (mk_qd : Bool) (mk_qe : Bool) (sb_pm : Bool) (sb_h : Int32) (sb_z : Int32) (sb_c : Int32) (sb_b : Int32) (sb_t : Int32) (sb_f : Int32) (sb_q : Int32) (sb_e : Int32) (sb_x : Bool) : va_W := [(mk, .inr (3, [.ref mk_g, .ref sb, .int mk_st, .int (bI mk_qd), .int (bI mk_qe)])), (sb, .inr (6, [.ref sb_p, .ref sb_s, .int (bI sb_pm), .int sb_h, .int sb_z, .int sb_c, .int sb_b, .int sb_t, .int sb_f, .int sb_q, .int sb_e, .int (bI sb_x)]))]
def wd_MkSubF (cA : ClassId) (mk sb sb_p sb_p_a sb_s sb_s_a mk_g : Nat) (mk_st : Int32) (mk_qd : Bool) (mk_qe : Bool) (sb_pm : Bool) (sb_h : Int32) (sb_z : Int32) (sb_c : Int32) (sb_b : Int32) (sb_t : Int32) (sb_f : Int32) (sb_q : Int32) (sb_e : Int32) (sb_x : Bool) (sb_p_n : Int32) (sb_p_f : Nat → Int32) (sb_s_n : Int32) (sb_s_f : Nat → Int32) : va_W := [(mk, .inr (3, [.ref mk_g, .ref sb, .int mk_st, .int (bI mk_qd), .int (bI mk_qe)])), (sb, .inr (6, [.ref sb_p, .ref sb_s, .int (bI sb_pm), .int sb_h, .int sb_z, .int sb_c, .int sb_b, .int sb_t, .int sb_f, .int sb_q, .int sb_e, .int (bI sb_x)])), (sb_p, .inr (4, [.ref sb_p_a, .int sb_p_n])), (sb_p_a, .inl (cA, 40, .inl sb_p_f)), (sb_s, .inr (4, [.ref sb_s_a, .int sb_s_n])), (sb_s_a, .inl (cA, 40, .inl sb_s_f))]
def wd_MkPat (cA : ClassId) (mk pt pl mi : Nat) (mk_s : Nat) (mk_st : Int32) (mk_qd : Bool) (mk_qe : Bool) (pt_h : Bool) : va_W := [(mk, .inr (3, [.ref pt, .ref mk_s, .int mk_st, .int (bI mk_qd), .int (bI mk_qe)])), (pt, .inr (2, [.ref pl, .ref mi, .int (bI pt_h)]))]
def wd_MkTake (cA : ClassId) (mk pt sb sb_p sb_p_a sb_s sb_s_a pl mi : Nat) (mk_s : Nat) (mk_st : Int32) (mk_qd : Bool) (mk_qe : Bool) (pt_h : Bool) (sb_pm : Bool) (sb_h : Int32) (sb_z : Int32) (sb_c : Int32) (sb_b : Int32) (sb_t : Int32) (sb_f : Int32) (sb_q : Int32) (sb_e : Int32) (sb_x : Bool) (sb_p_n : Int32) (sb_p_f : Nat → Int32) (sb_s_n : Int32) (sb_s_f : Nat → Int32) : va_W := [(mk, .inr (3, [.ref pt, .ref mk_s, .int mk_st, .int (bI mk_qd), .int (bI mk_qe)])), (pt, .inr (2, [.ref pl, .ref mi, .int (bI pt_h)])), (sb, .inr (6, [.ref sb_p, .ref sb_s, .int (bI sb_pm), .int sb_h, .int sb_z, .int sb_c, .int sb_b, .int sb_t, .int sb_f, .int sb_q, .int sb_e, .int (bI sb_x)])), (sb_p, .inr (4, [.ref sb_p_a, .int sb_p_n])), (sb_p_a, .inl (cA, 40, .inl sb_p_f)), (sb_s, .inr (4, [.ref sb_s_a, .int sb_s_n])), (sb_s_a, .inl (cA, 40, .inl sb_s_f))]
def wd_Make (cA : ClassId) (mk dr dr_a pt pl pl_p pl_p_a pl_s pl_s_a mi mi_p mi_p_a mi_s mi_s_a : Nat) (mk_g : Nat) (mk_s : Nat) (mk_st : Int32) (mk_qd : Bool) (mk_qe : Bool) (dr_n : Int32) (dr_f : Nat → Int32) (pt_h : Bool) (pl_pm : Bool) (pl_h : Int32) (pl_z : Int32) (pl_c : Int32) (pl_b : Int32) (pl_t : Int32) (pl_f : Int32) (pl_q : Int32) (pl_e : Int32) (pl_x : Bool) (pl_p_n : Int32) (pl_p_f : Nat → Int32) (pl_s_n : Int32) (pl_s_f : Nat → Int32) (mi_pm : Bool) (mi_h : Int32) (mi_z : Int32) (mi_c : Int32) (mi_b : Int32) (mi_t : Int32) (mi_f : Int32) (mi_q : Int32) (mi_e : Int32) (mi_x : Bool) (mi_p_n : Int32) (mi_p_f : Nat → Int32) (mi_s_n : Int32) (mi_s_f : Nat → Int32) : va_W := [(mk, .inr (3, [.ref mk_g, .ref mk_s, .int mk_st, .int (bI mk_qd), .int (bI mk_qe)])), (dr, .inr (4, [.ref dr_a, .int dr_n])), (dr_a, .inl (cA, 40, .inl dr_f)), (pt, .inr (2, [.ref pl, .ref mi, .int (bI pt_h)])), (pl, .inr (6, [.ref pl_p, .ref pl_s, .int (bI pl_pm), .int pl_h, .int pl_z, .int pl_c, .int pl_b, .int pl_t, .int pl_f, .int pl_q, .int pl_e, .int (bI pl_x)])), (pl_p, .inr (4, [.ref pl_p_a, .int pl_p_n])), (pl_p_a, .inl (cA, 40, .inl pl_p_f)), (pl_s, .inr (4, [.ref pl_s_a, .int pl_s_n])), (pl_s_a, .inl (cA, 40, .inl pl_s_f)), (mi, .inr (6, [.ref mi_p, .ref mi_s, .int (bI mi_pm), .int mi_h, .int mi_z, .int mi_c, .int mi_b, .int mi_t, .int mi_f, .int mi_q, .int mi_e, .int (bI mi_x)])), (mi_p, .inr (4, [.ref mi_p_a, .int mi_p_n])), (mi_p_a, .inl (cA, 40, .inl mi_p_f)), (mi_s, .inr (4, [.ref mi_s_a, .int mi_s_n])), (mi_s_a, .inl (cA, 40, .inl mi_s_f))]
def wd_Am (cA : ClassId) (am am_a : Nat) (am_f : Nat → Int32) : va_W := [(am, .inr (0, [.ref am_a])), (am_a, .inl (cA, 40, .inl am_f))]
def wd_ScPg (cA : ClassId) (sc pg pg_a sy sy_a am : Nat) (pg_n : Int32) (pg_f : Nat → Int32) (sy_l : Int32) (sy_f : Nat → Int32) : va_W := [(sc, .inr (5, [.ref pg, .ref am, .ref sy])), (pg, .inr (4, [.ref pg_a, .int pg_n])), (pg_a, .inl (cA, 256, .inl pg_f)), (sy, .inr (7, [.ref sy_a, .int sy_l])), (sy_a, .inl (cA, 6, .inl sy_f))]
def wd_ScAf (cA : ClassId) (sc pg pg_a sy sy_a af af_a am : Nat) (pg_n : Int32) (pg_f : Nat → Int32) (sy_l : Int32) (sy_f : Nat → Int32) (af_n : Int32) (af_f : Nat → Int32) : va_W := [(sc, .inr (5, [.ref pg, .ref am, .ref sy])), (pg, .inr (4, [.ref pg_a, .int pg_n])), (pg_a, .inl (cA, 256, .inl pg_f)), (sy, .inr (7, [.ref sy_a, .int sy_l])), (sy_a, .inl (cA, 6, .inl sy_f)), (af, .inr (4, [.ref af_a, .int af_n])), (af_a, .inl (cA, 40, .inl af_f))]
def wd_ScAm (cA : ClassId) (sc am am_a sb pg sy sb_p sb_s : Nat) (am_f : Nat → Int32) (sb_pm : Bool) (sb_h : Int32) (sb_z : Int32) (sb_c : Int32) (sb_b : Int32) (sb_t : Int32) (sb_f : Int32) (sb_q : Int32) (sb_e : Int32) (sb_x : Bool) : va_W := [(sc, .inr (5, [.ref pg, .ref am, .ref sy])), (am, .inr (0, [.ref am_a])), (am_a, .inl (cA, 40, .inl am_f)), (sb, .inr (6, [.ref sb_p, .ref sb_s, .int (bI sb_pm), .int sb_h, .int sb_z, .int sb_c, .int sb_b, .int sb_t, .int sb_f, .int sb_q, .int sb_e, .int (bI sb_x)]))]
def wd_ScD (cA : ClassId) (sc pg pg_a am am_a sy sy_a sb sb_p sb_s : Nat) (pg_n : Int32) (pg_f : Nat → Int32) (am_f : Nat → Int32) (sy_l : Int32) (sy_f : Nat → Int32) (sb_pm : Bool) (sb_h : Int32) (sb_z : Int32) (sb_c : Int32) (sb_b : Int32) (sb_t : Int32) (sb_f : Int32) (sb_q : Int32) (sb_e : Int32) (sb_x : Bool) : va_W := [(sc, .inr (5, [.ref pg, .ref am, .ref sy])), (pg, .inr (4, [.ref pg_a, .int pg_n])), (pg_a, .inl (cA, 256, .inl pg_f)), (am, .inr (0, [.ref am_a])), (am_a, .inl (cA, 40, .inl am_f)), (sy, .inr (7, [.ref sy_a, .int sy_l])), (sy_a, .inl (cA, 6, .inl sy_f)), (sb, .inr (6, [.ref sb_p, .ref sb_s, .int (bI sb_pm), .int sb_h, .int sb_z, .int sb_c, .int sb_b, .int sb_t, .int sb_f, .int sb_q, .int sb_e, .int (bI sb_x)]))]
def wd_ScE (cA : ClassId) (sc pg pg_a sy sy_a sb am sb_p sb_s : Nat) (pg_n : Int32) (pg_f : Nat → Int32) (sy_l : Int32) (sy_f : Nat → Int32) (sb_pm : Bool) (sb_h : Int32) (sb_z : Int32) (sb_c : Int32) (sb_b : Int32) (sb_t : Int32) (sb_f : Int32) (sb_q : Int32) (sb_e : Int32) (sb_x : Bool) : va_W := [(sc, .inr (5, [.ref pg, .ref am, .ref sy])), (pg, .inr (4, [.ref pg_a, .int pg_n])), (pg_a, .inl (cA, 256, .inl pg_f)), (sy, .inr (7, [.ref sy_a, .int sy_l])), (sy_a, .inl (cA, 6, .inl sy_f)), (sb, .inr (6, [.ref sb_p, .ref sb_s, .int (bI sb_pm), .int sb_h, .int sb_z, .int sb_c, .int sb_b, .int sb_t, .int sb_f, .int sb_q, .int sb_e, .int (bI sb_x)]))]
def wd_Comp (cA : ClassId) (sc pg pg_a am am_a sy sy_a pt pl pl_p pl_p_a pl_s pl_s_a mi mi_p mi_p_a mi_s mi_s_a : Nat) (pg_n : Int32) (pg_f : Nat → Int32) (am_f : Nat → Int32) (sy_l : Int32) (sy_f : Nat → Int32) (pt_h : Bool) (pl_pm : Bool) (pl_h : Int32) (pl_z : Int32) (pl_c : Int32) (pl_b : Int32) (pl_t : Int32) (pl_f : Int32) (pl_q : Int32) (pl_e : Int32) (pl_x : Bool) (pl_p_n : Int32) (pl_p_f : Nat → Int32) (pl_s_n : Int32) (pl_s_f : Nat → Int32) (mi_pm : Bool) (mi_h : Int32) (mi_z : Int32) (mi_c : Int32) (mi_b : Int32) (mi_t : Int32) (mi_f : Int32) (mi_q : Int32) (mi_e : Int32) (mi_x : Bool) (mi_p_n : Int32) (mi_p_f : Nat → Int32) (mi_s_n : Int32) (mi_s_f : Nat → Int32) : va_W := [(sc, .inr (5, [.ref pg, .ref am, .ref sy])), (pg, .inr (4, [.ref pg_a, .int pg_n])), (pg_a, .inl (cA, 256, .inl pg_f)), (am, .inr (0, [.ref am_a])), (am_a, .inl (cA, 40, .inl am_f)), (sy, .inr (7, [.ref sy_a, .int sy_l])), (sy_a, .inl (cA, 6, .inl sy_f)), (pt, .inr (2, [.ref pl, .ref mi, .int (bI pt_h)])), (pl, .inr (6, [.ref pl_p, .ref pl_s, .int (bI pl_pm), .int pl_h, .int pl_z, .int pl_c, .int pl_b, .int pl_t, .int pl_f, .int pl_q, .int pl_e, .int (bI pl_x)])), (pl_p, .inr (4, [.ref pl_p_a, .int pl_p_n])), (pl_p_a, .inl (cA, 40, .inl pl_p_f)), (pl_s, .inr (4, [.ref pl_s_a, .int pl_s_n])), (pl_s_a, .inl (cA, 40, .inl pl_s_f)), (mi, .inr (6, [.ref mi_p, .ref mi_s, .int (bI mi_pm), .int mi_h, .int mi_z, .int mi_c, .int mi_b, .int mi_t, .int mi_f, .int mi_q, .int mi_e, .int (bI mi_x)])), (mi_p, .inr (4, [.ref mi_p_a, .int mi_p_n])), (mi_p_a, .inl (cA, 40, .inl mi_p_f)), (mi_s, .inr (4, [.ref mi_s_a, .int mi_s_n])), (mi_s_a, .inl (cA, 40, .inl mi_s_f))]
def wd_Fi (cA : ClassId) (fi sy sc : Nat) (fi_w : Int64) (fi_p : Int32) (fi_t : Int32) (fi_z : Int32) (fi_e : Int32) (fi_n : Bool) : va_W := [(fi, .inr (1, [.ref sy, .ref sc, .long fi_w, .int fi_p, .int fi_t, .int fi_z, .int fi_e, .int (bI fi_n)]))]
def wd_FiSy (cA : ClassId) (fi sy sy_a sc : Nat) (fi_w : Int64) (fi_p : Int32) (fi_t : Int32) (fi_z : Int32) (fi_e : Int32) (fi_n : Bool) (sy_l : Int32) (sy_f : Nat → Int32) : va_W := [(fi, .inr (1, [.ref sy, .ref sc, .long fi_w, .int fi_p, .int fi_t, .int fi_z, .int fi_e, .int (bI fi_n)])), (sy, .inr (7, [.ref sy_a, .int sy_l])), (sy_a, .inl (cA, 6, .inl sy_f))]
def wd_Gath (cA : ClassId) (fi sy sy_a pt pl pl_p pl_p_a pl_s pl_s_a mi mi_p mi_p_a mi_s mi_s_a tx tx_a sc : Nat) (fi_w : Int64) (fi_p : Int32) (fi_t : Int32) (fi_z : Int32) (fi_e : Int32) (fi_n : Bool) (sy_l : Int32) (sy_f : Nat → Int32) (pt_h : Bool) (pl_pm : Bool) (pl_h : Int32) (pl_z : Int32) (pl_c : Int32) (pl_b : Int32) (pl_t : Int32) (pl_f : Int32) (pl_q : Int32) (pl_e : Int32) (pl_x : Bool) (pl_p_n : Int32) (pl_p_f : Nat → Int32) (pl_s_n : Int32) (pl_s_f : Nat → Int32) (mi_pm : Bool) (mi_h : Int32) (mi_z : Int32) (mi_c : Int32) (mi_b : Int32) (mi_t : Int32) (mi_f : Int32) (mi_q : Int32) (mi_e : Int32) (mi_x : Bool) (mi_p_n : Int32) (mi_p_f : Nat → Int32) (mi_s_n : Int32) (mi_s_f : Nat → Int32) (tx_n : Int32) (tx_f : Nat → Int32) : va_W := [(fi, .inr (1, [.ref sy, .ref sc, .long fi_w, .int fi_p, .int fi_t, .int fi_z, .int fi_e, .int (bI fi_n)])), (sy, .inr (7, [.ref sy_a, .int sy_l])), (sy_a, .inl (cA, 6, .inl sy_f)), (pt, .inr (2, [.ref pl, .ref mi, .int (bI pt_h)])), (pl, .inr (6, [.ref pl_p, .ref pl_s, .int (bI pl_pm), .int pl_h, .int pl_z, .int pl_c, .int pl_b, .int pl_t, .int pl_f, .int pl_q, .int pl_e, .int (bI pl_x)])), (pl_p, .inr (4, [.ref pl_p_a, .int pl_p_n])), (pl_p_a, .inl (cA, 40, .inl pl_p_f)), (pl_s, .inr (4, [.ref pl_s_a, .int pl_s_n])), (pl_s_a, .inl (cA, 40, .inl pl_s_f)), (mi, .inr (6, [.ref mi_p, .ref mi_s, .int (bI mi_pm), .int mi_h, .int mi_z, .int mi_c, .int mi_b, .int mi_t, .int mi_f, .int mi_q, .int mi_e, .int (bI mi_x)])), (mi_p, .inr (4, [.ref mi_p_a, .int mi_p_n])), (mi_p_a, .inl (cA, 40, .inl mi_p_f)), (mi_s, .inr (4, [.ref mi_s_a, .int mi_s_n])), (mi_s_a, .inl (cA, 40, .inl mi_s_f)), (tx, .inr (4, [.ref tx_a, .int tx_n])), (tx_a, .inl (cA, 256, .inl tx_f))]
def wd_Find (cA : ClassId) (fi sc pg pg_a am am_a sy sy_a pt pl pl_p pl_p_a pl_s pl_s_a mi mi_p mi_p_a mi_s mi_s_a tx tx_a : Nat) (fi_w : Int64) (fi_p : Int32) (fi_t : Int32) (fi_z : Int32) (fi_e : Int32) (fi_n : Bool) (pg_n : Int32) (pg_f : Nat → Int32) (am_f : Nat → Int32) (sy_l : Int32) (sy_f : Nat → Int32) (pt_h : Bool) (pl_pm : Bool) (pl_h : Int32) (pl_z : Int32) (pl_c : Int32) (pl_b : Int32) (pl_t : Int32) (pl_f : Int32) (pl_q : Int32) (pl_e : Int32) (pl_x : Bool) (pl_p_n : Int32) (pl_p_f : Nat → Int32) (pl_s_n : Int32) (pl_s_f : Nat → Int32) (mi_pm : Bool) (mi_h : Int32) (mi_z : Int32) (mi_c : Int32) (mi_b : Int32) (mi_t : Int32) (mi_f : Int32) (mi_q : Int32) (mi_e : Int32) (mi_x : Bool) (mi_p_n : Int32) (mi_p_f : Nat → Int32) (mi_s_n : Int32) (mi_s_f : Nat → Int32) (tx_n : Int32) (tx_f : Nat → Int32) : va_W := [(fi, .inr (1, [.ref sy, .ref sc, .long fi_w, .int fi_p, .int fi_t, .int fi_z, .int fi_e, .int (bI fi_n)])), (sc, .inr (5, [.ref pg, .ref am, .ref sy])), (pg, .inr (4, [.ref pg_a, .int pg_n])), (pg_a, .inl (cA, 256, .inl pg_f)), (am, .inr (0, [.ref am_a])), (am_a, .inl (cA, 40, .inl am_f)), (sy, .inr (7, [.ref sy_a, .int sy_l])), (sy_a, .inl (cA, 6, .inl sy_f)), (pt, .inr (2, [.ref pl, .ref mi, .int (bI pt_h)])), (pl, .inr (6, [.ref pl_p, .ref pl_s, .int (bI pl_pm), .int pl_h, .int pl_z, .int pl_c, .int pl_b, .int pl_t, .int pl_f, .int pl_q, .int pl_e, .int (bI pl_x)])), (pl_p, .inr (4, [.ref pl_p_a, .int pl_p_n])), (pl_p_a, .inl (cA, 40, .inl pl_p_f)), (pl_s, .inr (4, [.ref pl_s_a, .int pl_s_n])), (pl_s_a, .inl (cA, 40, .inl pl_s_f)), (mi, .inr (6, [.ref mi_p, .ref mi_s, .int (bI mi_pm), .int mi_h, .int mi_z, .int mi_c, .int mi_b, .int mi_t, .int mi_f, .int mi_q, .int mi_e, .int (bI mi_x)])), (mi_p, .inr (4, [.ref mi_p_a, .int mi_p_n])), (mi_p_a, .inl (cA, 40, .inl mi_p_f)), (mi_s, .inr (4, [.ref mi_s_a, .int mi_s_n])), (mi_s_a, .inl (cA, 40, .inl mi_s_f)), (tx, .inr (4, [.ref tx_a, .int tx_n])), (tx_a, .inl (cA, 256, .inl tx_f))]
def wd_ObDr (cA : ClassId) (ob dr dr_a tx sy mk sc fi pt sp : Nat) (ob_fs : Int64) (ob_fc : Int32) (dr_n : Int32) (dr_f : Nat → Int32) : va_W := [(ob, .inr (8, [.ref dr, .ref tx, .ref sy, .ref mk, .ref sc, .ref fi, .ref pt, .ref sp, .long ob_fs, .int ob_fc])), (dr, .inr (4, [.ref dr_a, .int dr_n])), (dr_a, .inl (cA, 40, .inl dr_f))]
def wd_ObTx (cA : ClassId) (ob tx tx_a dr sy mk sc fi pt sp : Nat) (ob_fs : Int64) (ob_fc : Int32) (tx_n : Int32) (tx_f : Nat → Int32) : va_W := [(ob, .inr (8, [.ref dr, .ref tx, .ref sy, .ref mk, .ref sc, .ref fi, .ref pt, .ref sp, .long ob_fs, .int ob_fc])), (tx, .inr (4, [.ref tx_a, .int tx_n])), (tx_a, .inl (cA, 256, .inl tx_f))]
def wd_ObSy (cA : ClassId) (ob sy sy_a dr tx mk sc fi pt sp : Nat) (ob_fs : Int64) (ob_fc : Int32) (sy_l : Int32) (sy_f : Nat → Int32) : va_W := [(ob, .inr (8, [.ref dr, .ref tx, .ref sy, .ref mk, .ref sc, .ref fi, .ref pt, .ref sp, .long ob_fs, .int ob_fc])), (sy, .inr (7, [.ref sy_a, .int sy_l])), (sy_a, .inl (cA, 6, .inl sy_f))]
def wd_Ob (cA : ClassId) (ob dr tx sy mk sc fi pt sp : Nat) (ob_fs : Int64) (ob_fc : Int32) : va_W := [(ob, .inr (8, [.ref dr, .ref tx, .ref sy, .ref mk, .ref sc, .ref fi, .ref pt, .ref sp, .long ob_fs, .int ob_fc]))]
def wd_ObAp (cA : ClassId) (ob mk dr dr_a pt pl pl_p pl_p_a pl_s pl_s_a mi mi_p mi_p_a mi_s mi_s_a tx sy sc fi : Nat) (ob_p : Nat) (ob_q : Nat) (ob_fs : Int64) (ob_fc : Int32) (mk_g : Nat) (mk_s : Nat) (mk_st : Int32) (mk_qd : Bool) (mk_qe : Bool) (dr_n : Int32) (dr_f : Nat → Int32) (pt_h : Bool) (pl_pm : Bool) (pl_h : Int32) (pl_z : Int32) (pl_c : Int32) (pl_b : Int32) (pl_t : Int32) (pl_f : Int32) (pl_q : Int32) (pl_e : Int32) (pl_x : Bool) (pl_p_n : Int32) (pl_p_f : Nat → Int32) (pl_s_n : Int32) (pl_s_f : Nat → Int32) (mi_pm : Bool) (mi_h : Int32) (mi_z : Int32) (mi_c : Int32) (mi_b : Int32) (mi_t : Int32) (mi_f : Int32) (mi_q : Int32) (mi_e : Int32) (mi_x : Bool) (mi_p_n : Int32) (mi_p_f : Nat → Int32) (mi_s_n : Int32) (mi_s_f : Nat → Int32) : va_W := [(ob, .inr (8, [.ref dr, .ref tx, .ref sy, .ref mk, .ref sc, .ref fi, .ref ob_p, .ref ob_q, .long ob_fs, .int ob_fc])), (mk, .inr (3, [.ref mk_g, .ref mk_s, .int mk_st, .int (bI mk_qd), .int (bI mk_qe)])), (dr, .inr (4, [.ref dr_a, .int dr_n])), (dr_a, .inl (cA, 40, .inl dr_f)), (pt, .inr (2, [.ref pl, .ref mi, .int (bI pt_h)])), (pl, .inr (6, [.ref pl_p, .ref pl_s, .int (bI pl_pm), .int pl_h, .int pl_z, .int pl_c, .int pl_b, .int pl_t, .int pl_f, .int pl_q, .int pl_e, .int (bI pl_x)])), (pl_p, .inr (4, [.ref pl_p_a, .int pl_p_n])), (pl_p_a, .inl (cA, 40, .inl pl_p_f)), (pl_s, .inr (4, [.ref pl_s_a, .int pl_s_n])), (pl_s_a, .inl (cA, 40, .inl pl_s_f)), (mi, .inr (6, [.ref mi_p, .ref mi_s, .int (bI mi_pm), .int mi_h, .int mi_z, .int mi_c, .int mi_b, .int mi_t, .int mi_f, .int mi_q, .int mi_e, .int (bI mi_x)])), (mi_p, .inr (4, [.ref mi_p_a, .int mi_p_n])), (mi_p_a, .inl (cA, 40, .inl mi_p_f)), (mi_s, .inr (4, [.ref mi_s_a, .int mi_s_n])), (mi_s_a, .inl (cA, 40, .inl mi_s_f))]
def wd_ObWr (cA : ClassId) (ob sc pg pg_a am am_a sy sy_a pt pl pl_p pl_p_a pl_s pl_s_a mi mi_p mi_p_a mi_s mi_s_a tx tx_a dr mk fi sp : Nat) (ob_fs : Int64) (ob_fc : Int32) (pg_n : Int32) (pg_f : Nat → Int32) (am_f : Nat → Int32) (sy_l : Int32) (sy_f : Nat → Int32) (pt_h : Bool) (pl_pm : Bool) (pl_h : Int32) (pl_z : Int32) (pl_c : Int32) (pl_b : Int32) (pl_t : Int32) (pl_f : Int32) (pl_q : Int32) (pl_e : Int32) (pl_x : Bool) (pl_p_n : Int32) (pl_p_f : Nat → Int32) (pl_s_n : Int32) (pl_s_f : Nat → Int32) (mi_pm : Bool) (mi_h : Int32) (mi_z : Int32) (mi_c : Int32) (mi_b : Int32) (mi_t : Int32) (mi_f : Int32) (mi_q : Int32) (mi_e : Int32) (mi_x : Bool) (mi_p_n : Int32) (mi_p_f : Nat → Int32) (mi_s_n : Int32) (mi_s_f : Nat → Int32) (tx_n : Int32) (tx_f : Nat → Int32) : va_W := [(ob, .inr (8, [.ref dr, .ref tx, .ref sy, .ref mk, .ref sc, .ref fi, .ref pt, .ref sp, .long ob_fs, .int ob_fc])), (sc, .inr (5, [.ref pg, .ref am, .ref sy])), (pg, .inr (4, [.ref pg_a, .int pg_n])), (pg_a, .inl (cA, 256, .inl pg_f)), (am, .inr (0, [.ref am_a])), (am_a, .inl (cA, 40, .inl am_f)), (sy, .inr (7, [.ref sy_a, .int sy_l])), (sy_a, .inl (cA, 6, .inl sy_f)), (pt, .inr (2, [.ref pl, .ref mi, .int (bI pt_h)])), (pl, .inr (6, [.ref pl_p, .ref pl_s, .int (bI pl_pm), .int pl_h, .int pl_z, .int pl_c, .int pl_b, .int pl_t, .int pl_f, .int pl_q, .int pl_e, .int (bI pl_x)])), (pl_p, .inr (4, [.ref pl_p_a, .int pl_p_n])), (pl_p_a, .inl (cA, 40, .inl pl_p_f)), (pl_s, .inr (4, [.ref pl_s_a, .int pl_s_n])), (pl_s_a, .inl (cA, 40, .inl pl_s_f)), (mi, .inr (6, [.ref mi_p, .ref mi_s, .int (bI mi_pm), .int mi_h, .int mi_z, .int mi_c, .int mi_b, .int mi_t, .int mi_f, .int mi_q, .int mi_e, .int (bI mi_x)])), (mi_p, .inr (4, [.ref mi_p_a, .int mi_p_n])), (mi_p_a, .inl (cA, 40, .inl mi_p_f)), (mi_s, .inr (4, [.ref mi_s_a, .int mi_s_n])), (mi_s_a, .inl (cA, 40, .inl mi_s_f)), (tx, .inr (4, [.ref tx_a, .int tx_n])), (tx_a, .inl (cA, 256, .inl tx_f))]
def wd_ObRd (cA : ClassId) (ob fi sc pg pg_a am am_a sy sy_a pt pl pl_p pl_p_a pl_s pl_s_a mi mi_p mi_p_a mi_s mi_s_a tx tx_a dr mk sp : Nat) (ob_fs : Int64) (ob_fc : Int32) (fi_w : Int64) (fi_p : Int32) (fi_t : Int32) (fi_z : Int32) (fi_e : Int32) (fi_n : Bool) (pg_n : Int32) (pg_f : Nat → Int32) (am_f : Nat → Int32) (sy_l : Int32) (sy_f : Nat → Int32) (pt_h : Bool) (pl_pm : Bool) (pl_h : Int32) (pl_z : Int32) (pl_c : Int32) (pl_b : Int32) (pl_t : Int32) (pl_f : Int32) (pl_q : Int32) (pl_e : Int32) (pl_x : Bool) (pl_p_n : Int32) (pl_p_f : Nat → Int32) (pl_s_n : Int32) (pl_s_f : Nat → Int32) (mi_pm : Bool) (mi_h : Int32) (mi_z : Int32) (mi_c : Int32) (mi_b : Int32) (mi_t : Int32) (mi_f : Int32) (mi_q : Int32) (mi_e : Int32) (mi_x : Bool) (mi_p_n : Int32) (mi_p_f : Nat → Int32) (mi_s_n : Int32) (mi_s_f : Nat → Int32) (tx_n : Int32) (tx_f : Nat → Int32) : va_W := [(ob, .inr (8, [.ref dr, .ref tx, .ref sy, .ref mk, .ref sc, .ref fi, .ref pt, .ref sp, .long ob_fs, .int ob_fc])), (fi, .inr (1, [.ref sy, .ref sc, .long fi_w, .int fi_p, .int fi_t, .int fi_z, .int fi_e, .int (bI fi_n)])), (sc, .inr (5, [.ref pg, .ref am, .ref sy])), (pg, .inr (4, [.ref pg_a, .int pg_n])), (pg_a, .inl (cA, 256, .inl pg_f)), (am, .inr (0, [.ref am_a])), (am_a, .inl (cA, 40, .inl am_f)), (sy, .inr (7, [.ref sy_a, .int sy_l])), (sy_a, .inl (cA, 6, .inl sy_f)), (pt, .inr (2, [.ref pl, .ref mi, .int (bI pt_h)])), (pl, .inr (6, [.ref pl_p, .ref pl_s, .int (bI pl_pm), .int pl_h, .int pl_z, .int pl_c, .int pl_b, .int pl_t, .int pl_f, .int pl_q, .int pl_e, .int (bI pl_x)])), (pl_p, .inr (4, [.ref pl_p_a, .int pl_p_n])), (pl_p_a, .inl (cA, 40, .inl pl_p_f)), (pl_s, .inr (4, [.ref pl_s_a, .int pl_s_n])), (pl_s_a, .inl (cA, 40, .inl pl_s_f)), (mi, .inr (6, [.ref mi_p, .ref mi_s, .int (bI mi_pm), .int mi_h, .int mi_z, .int mi_c, .int mi_b, .int mi_t, .int mi_f, .int mi_q, .int mi_e, .int (bI mi_x)])), (mi_p, .inr (4, [.ref mi_p_a, .int mi_p_n])), (mi_p_a, .inl (cA, 40, .inl mi_p_f)), (mi_s, .inr (4, [.ref mi_s_a, .int mi_s_n])), (mi_s_a, .inl (cA, 40, .inl mi_s_f)), (tx, .inr (4, [.ref tx_a, .int tx_n])), (tx_a, .inl (cA, 256, .inl tx_f))]
def wd_Mo (cA : ClassId) (mo mo_dr mo_now mo_first mo_has mo_da mo_dl mo_af mo_al mo_sy mo_dg mo_out mo_tx : Nat) (m_ds : Int32) (m_st : Int32) (m_sub : Int32) (m_q : Int32) (m_two : Bool) (m_least : Int32) (m_os : Int32) (m_ts : Int32) (m_fs : Int64) (m_fc : Int32) (m_g : Int64) (m_gs : Int32) (m_dr : Nat → Int32) (m_now : Nat → Int32) (m_first : Nat → Int32) (m_has : Nat → Int32) (m_da : Nat → Int32) (m_dl : Nat → Int32) (m_af : Nat → Int32) (m_al : Nat → Int32) (m_sy : Nat → Int32) (m_dg : Nat → Int32) (m_out : Nat → Int32) (m_tx : Nat → Int32) : va_W := [(mo, .inr (9, [.ref mo_dr, .int m_ds, .int m_st, .int m_sub, .int m_q, .ref mo_now, .ref mo_first, .ref mo_has, .ref mo_da, .ref mo_dl, .ref mo_af, .ref mo_al, .int (bI m_two), .ref mo_sy, .int m_least, .ref mo_dg, .ref mo_out, .int m_os, .ref mo_tx, .int m_ts, .long m_fs, .int m_fc, .long m_g, .int m_gs])), (mo_dr, .inl (cA, 40, .inl m_dr)), (mo_now, .inl (cA, 9, .inl m_now)), (mo_first, .inl (cA, 9, .inl m_first)), (mo_has, .inl (cA, 9, .inl m_has)), (mo_da, .inl (cA, 160, .inl m_da)), (mo_dl, .inl (cA, 4, .inl m_dl)), (mo_af, .inl (cA, 160, .inl m_af)), (mo_al, .inl (cA, 4, .inl m_al)), (mo_sy, .inl (cA, 6, .inl m_sy)), (mo_dg, .inl (cA, 128, .inl m_dg)), (mo_out, .inl (cA, 400, .inl m_out)), (mo_tx, .inl (cA, 400, .inl m_tx))]
def wd_Cp (cA : ClassId) (fa ta : Nat) (fa_f : Nat → Int32) (ta_f : Nat → Int32) : va_W := [(fa, .inl (cA, 9, .inl fa_f)), (ta, .inl (cA, 9, .inl ta_f))]
end
section
theorem d_isPlain_0 : decode b_isPlain 0 = .ok (.iload_n 0, 1) := by decide +kernel
theorem d_isPlain_1 : decode b_isPlain 1 = .ok (.bipush 32, 2) := by decide +kernel
theorem d_isPlain_3 : decode b_isPlain 3 = .ok (.if_icmp .lt 13, 3) := by decide +kernel
theorem d_isPlain_6 : decode b_isPlain 6 = .ok (.iload_n 0, 1) := by decide +kernel
theorem d_isPlain_7 : decode b_isPlain 7 = .ok (.bipush 126, 2) := by decide +kernel
theorem d_isPlain_9 : decode b_isPlain 9 = .ok (.if_icmp .gt 7, 3) := by decide +kernel
theorem d_isPlain_12 : decode b_isPlain 12 = .ok (.iconst 1, 1) := by decide +kernel
theorem d_isPlain_13 : decode b_isPlain 13 = .ok (.goto 4, 3) := by decide +kernel
theorem d_isPlain_16 : decode b_isPlain 16 = .ok (.iconst 0, 1) := by decide +kernel
theorem d_isPlain_17 : decode b_isPlain 17 = .ok (.ireturn, 1) := by decide +kernel
theorem d_Row_add_0 : decode b_Row_add 0 = .ok (.aload_n 0, 1) := by decide +kernel
theorem d_Row_add_1 : decode b_Row_add 1 = .ok (.getfield 19, 3) := by decide +kernel
theorem d_Row_add_4 : decode b_Row_add 4 = .ok (.aload_n 0, 1) := by decide +kernel
theorem d_Row_add_5 : decode b_Row_add 5 = .ok (.getfield 13, 3) := by decide +kernel
theorem d_Row_add_8 : decode b_Row_add 8 = .ok (.arraylength, 1) := by decide +kernel
theorem d_Row_add_9 : decode b_Row_add 9 = .ok (.if_icmp .lt 5, 3) := by decide +kernel
theorem d_Row_add_12 : decode b_Row_add 12 = .ok (.iconst 0, 1) := by decide +kernel
theorem d_Row_add_13 : decode b_Row_add 13 = .ok (.ireturn, 1) := by decide +kernel
theorem d_Row_add_14 : decode b_Row_add 14 = .ok (.aload_n 0, 1) := by decide +kernel
theorem d_Row_add_15 : decode b_Row_add 15 = .ok (.getfield 13, 3) := by decide +kernel
theorem d_Row_add_18 : decode b_Row_add 18 = .ok (.aload_n 0, 1) := by decide +kernel
theorem d_Row_add_19 : decode b_Row_add 19 = .ok (.getfield 19, 3) := by decide +kernel
theorem d_Row_add_22 : decode b_Row_add 22 = .ok (.iload_n 1, 1) := by decide +kernel
theorem d_Row_add_23 : decode b_Row_add 23 = .ok (.iastore, 1) := by decide +kernel
theorem d_Row_add_24 : decode b_Row_add 24 = .ok (.aload_n 0, 1) := by decide +kernel
theorem d_Row_add_25 : decode b_Row_add 25 = .ok (.dup, 1) := by decide +kernel
theorem d_Row_add_26 : decode b_Row_add 26 = .ok (.getfield 19, 3) := by decide +kernel
theorem d_Row_add_29 : decode b_Row_add 29 = .ok (.iconst 1, 1) := by decide +kernel
theorem d_Row_add_30 : decode b_Row_add 30 = .ok (.iadd, 1) := by decide +kernel
theorem d_Row_add_31 : decode b_Row_add 31 = .ok (.putfield 19, 3) := by decide +kernel
theorem d_Row_add_34 : decode b_Row_add 34 = .ok (.iconst 1, 1) := by decide +kernel
theorem d_Row_add_35 : decode b_Row_add 35 = .ok (.ireturn, 1) := by decide +kernel
theorem d_Row_clear_0 : decode b_Row_clear 0 = .ok (.aload_n 0, 1) := by decide +kernel
theorem d_Row_clear_1 : decode b_Row_clear 1 = .ok (.iconst 0, 1) := by decide +kernel
theorem d_Row_clear_2 : decode b_Row_clear 2 = .ok (.putfield 19, 3) := by decide +kernel
theorem d_Row_clear_5 : decode b_Row_clear 5 = .ok (.return_, 1) := by decide +kernel
theorem d_Row_has_0 : decode b_Row_has 0 = .ok (.iload_n 1, 1) := by decide +kernel
theorem d_Row_has_1 : decode b_Row_has 1 = .ok (.ifCond .lt 15, 3) := by decide +kernel
theorem d_Row_has_4 : decode b_Row_has 4 = .ok (.iload_n 1, 1) := by decide +kernel
theorem d_Row_has_5 : decode b_Row_has 5 = .ok (.aload_n 0, 1) := by decide +kernel
theorem d_Row_has_6 : decode b_Row_has 6 = .ok (.getfield 19, 3) := by decide +kernel
theorem d_Row_has_9 : decode b_Row_has 9 = .ok (.if_icmp .ge 7, 3) := by decide +kernel
theorem d_Row_has_12 : decode b_Row_has 12 = .ok (.iconst 1, 1) := by decide +kernel
theorem d_Row_has_13 : decode b_Row_has 13 = .ok (.goto 4, 3) := by decide +kernel
theorem d_Row_has_16 : decode b_Row_has 16 = .ok (.iconst 0, 1) := by decide +kernel
theorem d_Row_has_17 : decode b_Row_has 17 = .ok (.ireturn, 1) := by decide +kernel
theorem d_Row_code_0 : decode b_Row_code 0 = .ok (.aload_n 0, 1) := by decide +kernel
theorem d_Row_code_1 : decode b_Row_code 1 = .ok (.iload_n 1, 1) := by decide +kernel
theorem d_Row_code_2 : decode b_Row_code 2 = .ok (.invokevirtual 23, 3) := by decide +kernel
theorem d_Row_code_5 : decode b_Row_code 5 = .ok (.ifCond .eq 12, 3) := by decide +kernel
theorem d_Row_code_8 : decode b_Row_code 8 = .ok (.aload_n 0, 1) := by decide +kernel
theorem d_Row_code_9 : decode b_Row_code 9 = .ok (.getfield 13, 3) := by decide +kernel
theorem d_Row_code_12 : decode b_Row_code 12 = .ok (.iload_n 1, 1) := by decide +kernel
theorem d_Row_code_13 : decode b_Row_code 13 = .ok (.iaload, 1) := by decide +kernel
theorem d_Row_code_14 : decode b_Row_code 14 = .ok (.goto 4, 3) := by decide +kernel
theorem d_Row_code_17 : decode b_Row_code 17 = .ok (.iconst (-1), 1) := by decide +kernel
theorem d_Row_code_18 : decode b_Row_code 18 = .ok (.ireturn, 1) := by decide +kernel
theorem d_Row_copyFrom_0 : decode b_Row_copyFrom 0 = .ok (.aload_n 0, 1) := by decide +kernel
theorem d_Row_copyFrom_1 : decode b_Row_copyFrom 1 = .ok (.invokevirtual 27, 3) := by decide +kernel
theorem d_Row_copyFrom_4 : decode b_Row_copyFrom 4 = .ok (.iconst 0, 1) := by decide +kernel
theorem d_Row_copyFrom_5 : decode b_Row_copyFrom 5 = .ok (.istore_n 2, 1) := by decide +kernel
theorem d_Row_copyFrom_6 : decode b_Row_copyFrom 6 = .ok (.iload_n 2, 1) := by decide +kernel
theorem d_Row_copyFrom_7 : decode b_Row_copyFrom 7 = .ok (.aload_n 1, 1) := by decide +kernel
theorem d_Row_copyFrom_8 : decode b_Row_copyFrom 8 = .ok (.getfield 19, 3) := by decide +kernel
theorem d_Row_copyFrom_11 : decode b_Row_copyFrom 11 = .ok (.if_icmp .ge 19, 3) := by decide +kernel
theorem d_Row_copyFrom_14 : decode b_Row_copyFrom 14 = .ok (.aload_n 0, 1) := by decide +kernel
theorem d_Row_copyFrom_15 : decode b_Row_copyFrom 15 = .ok (.aload_n 1, 1) := by decide +kernel
theorem d_Row_copyFrom_16 : decode b_Row_copyFrom 16 = .ok (.iload_n 2, 1) := by decide +kernel
theorem d_Row_copyFrom_17 : decode b_Row_copyFrom 17 = .ok (.invokevirtual 30, 3) := by decide +kernel
theorem d_Row_copyFrom_20 : decode b_Row_copyFrom 20 = .ok (.invokevirtual 34, 3) := by decide +kernel
theorem d_Row_copyFrom_23 : decode b_Row_copyFrom 23 = .ok (.pop, 1) := by decide +kernel
theorem d_Row_copyFrom_24 : decode b_Row_copyFrom 24 = .ok (.iinc 2 1, 3) := by decide +kernel
theorem d_Row_copyFrom_27 : decode b_Row_copyFrom 27 = .ok (.goto (-21), 3) := by decide +kernel
theorem d_Row_copyFrom_30 : decode b_Row_copyFrom 30 = .ok (.return_, 1) := by decide +kernel
theorem d_Row_isSameAs_0 : decode b_Row_isSameAs 0 = .ok (.aload_n 0, 1) := by decide +kernel
theorem d_Row_isSameAs_1 : decode b_Row_isSameAs 1 = .ok (.getfield 19, 3) := by decide +kernel
theorem d_Row_isSameAs_4 : decode b_Row_isSameAs 4 = .ok (.aload_n 1, 1) := by decide +kernel
theorem d_Row_isSameAs_5 : decode b_Row_isSameAs 5 = .ok (.getfield 19, 3) := by decide +kernel
theorem d_Row_isSameAs_8 : decode b_Row_isSameAs 8 = .ok (.if_icmp .eq 5, 3) := by decide +kernel
theorem d_Row_isSameAs_11 : decode b_Row_isSameAs 11 = .ok (.iconst 0, 1) := by decide +kernel
theorem d_Row_isSameAs_12 : decode b_Row_isSameAs 12 = .ok (.ireturn, 1) := by decide +kernel
theorem d_Row_isSameAs_13 : decode b_Row_isSameAs 13 = .ok (.iconst 0, 1) := by decide +kernel
theorem d_Row_isSameAs_14 : decode b_Row_isSameAs 14 = .ok (.istore_n 2, 1) := by decide +kernel
theorem d_Row_isSameAs_15 : decode b_Row_isSameAs 15 = .ok (.iload_n 2, 1) := by decide +kernel
theorem d_Row_isSameAs_16 : decode b_Row_isSameAs 16 = .ok (.aload_n 0, 1) := by decide +kernel
theorem d_Row_isSameAs_17 : decode b_Row_isSameAs 17 = .ok (.getfield 19, 3) := by decide +kernel
theorem d_Row_isSameAs_20 : decode b_Row_isSameAs 20 = .ok (.if_icmp .ge 24, 3) := by decide +kernel
theorem d_Row_isSameAs_23 : decode b_Row_isSameAs 23 = .ok (.aload_n 0, 1) := by decide +kernel
theorem d_Row_isSameAs_24 : decode b_Row_isSameAs 24 = .ok (.iload_n 2, 1) := by decide +kernel
theorem d_Row_isSameAs_25 : decode b_Row_isSameAs 25 = .ok (.invokevirtual 30, 3) := by decide +kernel
theorem d_Row_isSameAs_28 : decode b_Row_isSameAs 28 = .ok (.aload_n 1, 1) := by decide +kernel
theorem d_Row_isSameAs_29 : decode b_Row_isSameAs 29 = .ok (.iload_n 2, 1) := by decide +kernel
theorem d_Row_isSameAs_30 : decode b_Row_isSameAs 30 = .ok (.invokevirtual 30, 3) := by decide +kernel
theorem d_Row_isSameAs_33 : decode b_Row_isSameAs 33 = .ok (.if_icmp .eq 5, 3) := by decide +kernel
theorem d_Row_isSameAs_36 : decode b_Row_isSameAs 36 = .ok (.iconst 0, 1) := by decide +kernel
theorem d_Row_isSameAs_37 : decode b_Row_isSameAs 37 = .ok (.ireturn, 1) := by decide +kernel
theorem d_Row_isSameAs_38 : decode b_Row_isSameAs 38 = .ok (.iinc 2 1, 3) := by decide +kernel
theorem d_Row_isSameAs_41 : decode b_Row_isSameAs 41 = .ok (.goto (-26), 3) := by decide +kernel
theorem d_Row_isSameAs_44 : decode b_Row_isSameAs 44 = .ok (.iconst 1, 1) := by decide +kernel
theorem d_Row_isSameAs_45 : decode b_Row_isSameAs 45 = .ok (.ireturn, 1) := by decide +kernel
end
section
/-! DecimalPatterns.isPlain(I)Z -/
def wp_isPlain (cd : Int32) (Q : Bool → Unit → Prop) : Prop := (cd < 32 → (Q false ())) ∧ (¬ cd < 32 → ((126 < cd → (Q false ())) ∧ (¬ 126 < cd → (Q true ()))))
set_option maxHeartbeats 4000000 in
set_option maxRecDepth 100000 in
theorem c_isPlain (l : Launch) (D : va_G) (cA : ClassId) (cd : Int32) (Q : Bool → Unit → Prop) (hw : wp_isPlain cd Q) : ct_M vwCl l D [(cA, .int)] y_isPlain w_isPlain { frames := 0, cells := 0, slots := 0, locals := 0 } [.int cd] (wd_Nil cA) (ct_qz vwCl D [(cA, .int)] Q (fun u => wd_Nil cA)) := by
  refine ct_enter (cc := b_isPlain) (maxL := 1) (ret := (some .boolean)) (by decide) rfl (Nat.le_of_ble_eq_true rfl) ?_
  intro p e s m args below meth c A ls hx hb hr hlk hml hts hown hA hS hP hK hN hD hl
  have hl : lv_has ls 1 [(0, .int cd)] := hl
  have htb : ∀ w ∈ tbl, w.before args s = true := fun w h => hts w (List.mem_cons_of_mem _ h)
  have hown : s.vm.findClass "DecimalPatterns" = some m.cls := hown
  unfold wp_isPlain at hw
  refine lv_iload_n hx hb d_isPlain_0 rfl (lv_at hl 0 rfl) ?_
  refine lv_bipush (v := 32) hx hb d_isPlain_1 (by decide) ?_
  refine lv_icmp_lt (tgt := 16) hx hb d_isPlain_3 rfl (fun hc => ?_) (fun hc => ?_)
  · have hw := hw.1 hc
    refine lv_iconst (v := 0) hx hb d_isPlain_16 (by decide) ?_
    exact ct_zret false hx hb hr hlk hK hS () hw hP hD d_isPlain_17
  · have hw := hw.2 hc
    refine lv_iload_n hx hb d_isPlain_6 rfl (lv_at hl 0 rfl) ?_
    refine lv_bipush (v := 126) hx hb d_isPlain_7 (by decide) ?_
    refine lv_icmp_gt (tgt := 16) hx hb d_isPlain_9 rfl (fun hc => ?_) (fun hc => ?_)
    · have hw := hw.1 hc
      refine lv_iconst (v := 0) hx hb d_isPlain_16 (by decide) ?_
      exact ct_zret false hx hb hr hlk hK hS () hw hP hD d_isPlain_17
    · have hw := hw.2 hc
      refine lv_iconst (v := 1) hx hb d_isPlain_12 (by decide) ?_
      refine lv_goto (tgt := 17) hx hb d_isPlain_13 rfl ?_
      exact ct_zret true hx hb hr hlk hK hS () hw hP hD d_isPlain_17
/-! DecimalPatterns$Row.add(I)Z -/
def wp_Row_add (rw_N : Nat) (rw_n : Int32) (rw_f : Nat → Int32) (cd : Int32) (Q : Bool → (Int32 × (Nat → Int32)) → Prop) : Prop := (rw_n < (nI rw_N) → (vp_in rw_n rw_N ∧ (Q true (rw_n + 1, upd rw_f rw_n.toNatClampNeg cd)))) ∧ (¬ rw_n < (nI rw_N) → (Q false (rw_n, rw_f)))
set_option maxHeartbeats 4000000 in
set_option maxRecDepth 100000 in
theorem c_Row_add (l : Launch) (D : va_G) (cA : ClassId) (rw rw_a : Nat) (rw_N : Nat) (rw_n : Int32) (rw_f : Nat → Int32) (cd : Int32) (Q : Bool → (Int32 × (Nat → Int32)) → Prop) (hw : wp_Row_add rw_N rw_n rw_f cd Q) : ct_M vwCl l D [(cA, .int)] y_Row_add w_Row_add { frames := 0, cells := 0, slots := 0, locals := 0 } [.ref rw, .int cd] (wd_Row cA rw rw_a rw_N rw_n rw_f) (ct_qz vwCl D [(cA, .int)] Q (fun u => wd_Row cA rw rw_a rw_N u.1 u.2)) := by
  refine ct_enter (cc := b_Row_add) (maxL := 2) (ret := (some .boolean)) (by decide) rfl (Nat.le_of_ble_eq_true rfl) ?_
  intro p e s m args below meth c A ls hx hb hr hlk hml hts hown hA hS hP hK hN hD hl
  have hl : lv_has ls 2 [(0, .ref rw), (1, .int cd)] := hl
  have htb : ∀ w ∈ tbl, w.before args s = true := fun w h => hts w (List.mem_cons_of_mem _ h)
  have hown : s.vm.findClass "DecimalPatterns$Row" = some m.cls := hown
  unfold wp_Row_add at hw
  refine lv_aload_n hx hb d_Row_add_0 rfl (lv_at hl 0 rfl) ?_
  refine va_get (ci := 4) (C := R_Rw) (T := F_Rw) (N := 2) hx hb htb in_Rw hown hK hP 0 rfl rfl 1 (by decide) (htb _ tw101) (fun _ h9 => h9) rfl d_Row_add_1 ?_
  refine lv_aload_n hx hb d_Row_add_4 rfl (lv_at hl 0 rfl) ?_
  refine va_get (ci := 4) (C := R_Rw) (T := F_Rw) (N := 2) hx hb htb in_Rw hown hK hP 0 rfl rfl 0 (by decide) (htb _ tw100) (fun _ h9 => h9) rfl d_Row_add_5 ?_
  refine va_alen (v := nI rw_N) hx hb hK hP 1 0 rfl rfl rfl d_Row_add_8 ?_
  refine lv_icmp_lt (tgt := 14) hx hb d_Row_add_9 rfl (fun hc => ?_) (fun hc => ?_)
  · have hw := hw.1 hc
    refine lv_aload_n hx hb d_Row_add_14 rfl (lv_at hl 0 rfl) ?_
    refine va_get (ci := 4) (C := R_Rw) (T := F_Rw) (N := 2) hx hb htb in_Rw hown hK hP 0 rfl rfl 0 (by decide) (htb _ tw100) (fun _ h9 => h9) rfl d_Row_add_15 ?_
    refine lv_aload_n hx hb d_Row_add_18 rfl (lv_at hl 0 rfl) ?_
    refine va_get (ci := 4) (C := R_Rw) (T := F_Rw) (N := 2) hx hb htb in_Rw hown hK hP 0 rfl rfl 1 (by decide) (htb _ tw101) (fun _ h9 => h9) rfl d_Row_add_19 ?_
    refine lv_iload_n hx hb d_Row_add_22 rfl (lv_at hl 1 rfl) ?_
    have hi := hw.1
    have hw := hw.2
    refine va_iast hx hb hK hP hD hS 1 0 rfl rfl hi d_Row_add_23 (fun H locs hP hD hS => ?_)
    have hP : va_P D vwCl (wd_Row cA rw rw_a rw_N rw_n (upd rw_f rw_n.toNatClampNeg cd)) H := hP
    have hD : va_D A (wd_Row cA rw rw_a rw_N rw_n (upd rw_f rw_n.toNatClampNeg cd)) := hD
    refine lv_aload_n hx hb d_Row_add_24 rfl (lv_at hl 0 rfl) ?_
    refine lv_dup hx hb d_Row_add_25 rfl ?_
    refine va_get (ci := 4) (C := R_Rw) (T := F_Rw) (N := 2) hx hb htb in_Rw hown hK hP 0 rfl rfl 1 (by decide) (htb _ tw101) (fun _ h9 => h9) rfl d_Row_add_26 ?_
    refine lv_iconst (v := 1) hx hb d_Row_add_29 (by decide) ?_
    refine lv_iadd hx hb d_Row_add_30 ?_
    refine va_put (ci := 4) (v := .int (rw_n + 1)) (ty := .int) (C := R_Rw) (T := F_Rw) (N := 2) hx hb htb in_Rw t_Rw t_Rw_ok n_Rw hown hK hP hD hS 0 rfl rfl 1 (by decide) (htb _ tw101) (fun _ h9 => h9) rfl (by decide +kernel) rfl rfl (Nat.le_of_ble_eq_true rfl) d_Row_add_31 (fun H locs hP hD hS => ?_)
    have hP : va_P D vwCl (wd_Row cA rw rw_a rw_N (rw_n + 1) (upd rw_f rw_n.toNatClampNeg cd)) H := hP
    have hD : va_D A (wd_Row cA rw rw_a rw_N (rw_n + 1) (upd rw_f rw_n.toNatClampNeg cd)) := hD
    refine lv_iconst (v := 1) hx hb d_Row_add_34 (by decide) ?_
    exact ct_zret true hx hb hr hlk hK hS (rw_n + 1, upd rw_f rw_n.toNatClampNeg cd) hw hP hD d_Row_add_35
  · have hw := hw.2 hc
    refine lv_iconst (v := 0) hx hb d_Row_add_12 (by decide) ?_
    exact ct_zret false hx hb hr hlk hK hS (rw_n, rw_f) hw hP hD d_Row_add_13
/-! DecimalPatterns$Row.clear()V -/
def wp_Row_clear (rw_n : Int32) (Q : Int32 → Prop) : Prop := Q 0
set_option maxHeartbeats 4000000 in
set_option maxRecDepth 100000 in
theorem c_Row_clear (l : Launch) (D : va_G) (cA : ClassId) (rw rw_a : Nat) (rw_N : Nat) (rw_n : Int32) (rw_f : Nat → Int32) (Q : Int32 → Prop) (hw : wp_Row_clear rw_n Q) : ct_M vwCl l D [(cA, .int)] y_Row_clear w_Row_clear { frames := 0, cells := 0, slots := 0, locals := 0 } [.ref rw] (wd_Row cA rw rw_a rw_N rw_n rw_f) (ct_qv vwCl D [(cA, .int)] Q (fun u => wd_Row cA rw rw_a rw_N u rw_f)) := by
  refine ct_enter (cc := b_Row_clear) (maxL := 1) (ret := none) (by decide) rfl (Nat.le_of_ble_eq_true rfl) ?_
  intro p e s m args below meth c A ls hx hb hr hlk hml hts hown hA hS hP hK hN hD hl
  have hl : lv_has ls 1 [(0, .ref rw)] := hl
  have htb : ∀ w ∈ tbl, w.before args s = true := fun w h => hts w (List.mem_cons_of_mem _ h)
  have hown : s.vm.findClass "DecimalPatterns$Row" = some m.cls := hown
  unfold wp_Row_clear at hw
  refine lv_aload_n hx hb d_Row_clear_0 rfl (lv_at hl 0 rfl) ?_
  refine lv_iconst (v := 0) hx hb d_Row_clear_1 (by decide) ?_
  refine va_put (ci := 4) (v := .int 0) (ty := .int) (C := R_Rw) (T := F_Rw) (N := 2) hx hb htb in_Rw t_Rw t_Rw_ok n_Rw hown hK hP hD hS 0 rfl rfl 1 (by decide) (htb _ tw101) (fun _ h9 => h9) rfl (by decide +kernel) rfl rfl (Nat.le_of_ble_eq_true rfl) d_Row_clear_2 (fun H locs hP hD hS => ?_)
  have hP : va_P D vwCl (wd_Row cA rw rw_a rw_N 0 rw_f) H := hP
  have hD : va_D A (wd_Row cA rw rw_a rw_N 0 rw_f) := hD
  exact ct_vret hx hb hr hlk hK hS 0 hw hP hD d_Row_clear_5
/-! DecimalPatterns$Row.has(I)Z -/
def wp_Row_has (rw_n : Int32) (ix : Int32) (Q : Bool → Unit → Prop) : Prop := (ix < 0 → (Q false ())) ∧ (¬ ix < 0 → ((rw_n ≤ ix → (Q false ())) ∧ (¬ rw_n ≤ ix → (Q true ()))))
set_option maxHeartbeats 4000000 in
set_option maxRecDepth 100000 in
theorem c_Row_has (l : Launch) (D : va_G) (cA : ClassId) (rw rw_a : Nat) (rw_N : Nat) (rw_n : Int32) (rw_f : Nat → Int32) (ix : Int32) (Q : Bool → Unit → Prop) (hw : wp_Row_has rw_n ix Q) : ct_M vwCl l D [(cA, .int)] y_Row_has w_Row_has { frames := 0, cells := 0, slots := 0, locals := 0 } [.ref rw, .int ix] (wd_Row cA rw rw_a rw_N rw_n rw_f) (ct_qz vwCl D [(cA, .int)] Q (fun u => wd_Row cA rw rw_a rw_N rw_n rw_f)) := by
  refine ct_enter (cc := b_Row_has) (maxL := 2) (ret := (some .boolean)) (by decide) rfl (Nat.le_of_ble_eq_true rfl) ?_
  intro p e s m args below meth c A ls hx hb hr hlk hml hts hown hA hS hP hK hN hD hl
  have hl : lv_has ls 2 [(0, .ref rw), (1, .int ix)] := hl
  have htb : ∀ w ∈ tbl, w.before args s = true := fun w h => hts w (List.mem_cons_of_mem _ h)
  have hown : s.vm.findClass "DecimalPatterns$Row" = some m.cls := hown
  unfold wp_Row_has at hw
  refine lv_iload_n hx hb d_Row_has_0 rfl (lv_at hl 1 rfl) ?_
  refine lv_if_lt (tgt := 16) hx hb d_Row_has_1 rfl (fun hc => ?_) (fun hc => ?_)
  · have hw := hw.1 hc
    refine lv_iconst (v := 0) hx hb d_Row_has_16 (by decide) ?_
    exact ct_zret false hx hb hr hlk hK hS () hw hP hD d_Row_has_17
  · have hw := hw.2 hc
    refine lv_iload_n hx hb d_Row_has_4 rfl (lv_at hl 1 rfl) ?_
    refine lv_aload_n hx hb d_Row_has_5 rfl (lv_at hl 0 rfl) ?_
    refine va_get (ci := 4) (C := R_Rw) (T := F_Rw) (N := 2) hx hb htb in_Rw hown hK hP 0 rfl rfl 1 (by decide) (htb _ tw101) (fun _ h9 => h9) rfl d_Row_has_6 ?_
    refine lv_icmp_ge (tgt := 16) hx hb d_Row_has_9 rfl (fun hc => ?_) (fun hc => ?_)
    · have hw := hw.1 hc
      refine lv_iconst (v := 0) hx hb d_Row_has_16 (by decide) ?_
      exact ct_zret false hx hb hr hlk hK hS () hw hP hD d_Row_has_17
    · have hw := hw.2 hc
      refine lv_iconst (v := 1) hx hb d_Row_has_12 (by decide) ?_
      refine lv_goto (tgt := 17) hx hb d_Row_has_13 rfl ?_
      exact ct_zret true hx hb hr hlk hK hS () hw hP hD d_Row_has_17
/-! DecimalPatterns$Row.code(I)I -/
def wp_Row_code (rw_N : Nat) (rw_n : Int32) (rw_f : Nat → Int32) (ix : Int32) (Q : Int32 → Unit → Prop) : Prop := wp_Row_has rw_n ix (fun r1 u2 => (r1 = false → (Q (-1) ())) ∧ (r1 = true → (vp_in ix rw_N ∧ (Q (rw_f ix.toNatClampNeg) ()))))
set_option maxHeartbeats 4000000 in
set_option maxRecDepth 100000 in
theorem c_Row_code (l : Launch) (D : va_G) (cA : ClassId) (rw rw_a : Nat) (rw_N : Nat) (rw_n : Int32) (rw_f : Nat → Int32) (ix : Int32) (Q : Int32 → Unit → Prop) (hw : wp_Row_code rw_N rw_n rw_f ix Q) : ct_M vwCl l D [(cA, .int)] y_Row_code w_Row_code { frames := 1, cells := 0, slots := 0, locals := 21 } [.ref rw, .int ix] (wd_Row cA rw rw_a rw_N rw_n rw_f) (ct_qi vwCl D [(cA, .int)] Q (fun u => wd_Row cA rw rw_a rw_N rw_n rw_f)) := by
  refine ct_enter (cc := b_Row_code) (maxL := 2) (ret := (some .int)) (by decide) rfl (Nat.le_of_ble_eq_true rfl) ?_
  intro p e s m args below meth c A ls hx hb hr hlk hml hts hown hA hS hP hK hN hD hl
  have hl : lv_has ls 2 [(0, .ref rw), (1, .int ix)] := hl
  have htb : ∀ w ∈ tbl, w.before args s = true := fun w h => hts w (List.mem_cons_of_mem _ h)
  have hown : s.vm.findClass "DecimalPatterns$Row" = some m.cls := hown
  unfold wp_Row_code at hw
  refine lv_aload_n hx hb d_Row_code_0 rfl (lv_at hl 0 rfl) ?_
  refine lv_iload_n hx hb d_Row_code_1 rfl (lv_at hl 1 rfl) ?_
  refine ct_callz (wn := fun _ => wd_Row cA rw rw_a rw_N rw_n rw_f) (va_runV (As := [.int ix]) (rest := []) ⟨hx, hb, hml, hown, htb⟩ (c_Row_has l D cA rw rw_a rw_N rw_n rw_f ix _ hw _) (ct_cwV 1 htb tw383 rfl rfl tw73 tw380 tw381 tw382 hd_Row_has ⟨by decide, by decide⟩) (ct_preV hP hD hK hN [0, 1] rfl (by decide) 0 rfl rfl _) rfl rfl hl.1 rfl (lv_room (Nat.le_of_ble_eq_true rfl)) d_Row_code_2 ⟨Nat.zero_le _, Nat.zero_le _⟩) hP hD hS hA [0, 1] [] [0, 1] rfl rfl (by decide) (by decide) (fun _ => rfl) (by decide) (fun r1 u2 H locs hw hP hD hS => ?_)
  have hP : va_P D vwCl (wd_Row cA rw rw_a rw_N rw_n rw_f) H := hP
  have hD : va_D A (wd_Row cA rw rw_a rw_N rw_n rw_f) := hD
  refine lv_if_eq (tgt := 17) hx hb d_Row_code_5 rfl (fun hc => ?_) (fun hc => ?_)
  · have hw := hw.1 ((bI_0 _).mp hc)
    refine lv_iconst (v := (-1)) hx hb d_Row_code_17 (by decide) ?_
    exact ct_iret hx hb hr hlk hK hS () hw hP hD d_Row_code_18
  · have hw := hw.2 ((bI_n0 _).mp hc)
    refine lv_aload_n hx hb d_Row_code_8 rfl (lv_at hl 0 rfl) ?_
    refine va_get (ci := 4) (C := R_Rw) (T := F_Rw) (N := 2) hx hb htb in_Rw hown hK hP 0 rfl rfl 0 (by decide) (htb _ tw100) (fun _ h9 => h9) rfl d_Row_code_9 ?_
    refine lv_iload_n hx hb d_Row_code_12 rfl (lv_at hl 1 rfl) ?_
    have hi := hw.1
    have hw := hw.2
    refine va_iald hx hb hK hP 1 0 rfl rfl hi d_Row_code_13 ?_
    refine lv_goto (tgt := 18) hx hb d_Row_code_14 rfl ?_
    exact ct_iret hx hb hr hlk hK hS () hw hP hD d_Row_code_18
/-! DecimalPatterns$Row.copyFrom(LDecimalPatterns$Row;)V -/
def wp_Row_copyFrom_L60 : Nat → Nat → Nat → Int32 → (Nat → Int32) → Int32 → Int32 → (Nat → Int32) → ((Int32 × (Nat → Int32)) → Prop) → Prop
  | 0, _, _, _, _, _, _, _, _ => False
  | n60 + 1, rw_N, ot_N, ot_n, ot_f, x2, rw_n, rw_f, Q => (ot_n ≤ x2 → (Q (rw_n, rw_f))) ∧ (¬ ot_n ≤ x2 → (wp_Row_code ot_N ot_n ot_f x2 (fun r3 u4 => wp_Row_add rw_N rw_n rw_f r3 (fun r5 u6 => wp_Row_copyFrom_L60 n60 rw_N ot_N ot_n ot_f (x2 + 1) u6.1 u6.2 Q))))
def wp_Row_copyFrom (rw_N ot_N : Nat) (rw_n : Int32) (rw_f : Nat → Int32) (ot_n : Int32) (ot_f : Nat → Int32) (Q : (Int32 × (Nat → Int32)) → Prop) : Prop := wp_Row_clear rw_n (fun u2 => ∃ n60, wp_Row_copyFrom_L60 n60 rw_N ot_N ot_n ot_f 0 u2 rw_f Q)
set_option maxHeartbeats 4000000 in
set_option maxRecDepth 100000 in
theorem c_Row_copyFrom (l : Launch) (D : va_G) (cA : ClassId) (rw rw_a ot ot_a : Nat) (rw_N ot_N : Nat) (rw_n : Int32) (rw_f : Nat → Int32) (ot_n : Int32) (ot_f : Nat → Int32) (Q : (Int32 × (Nat → Int32)) → Prop) (hw : wp_Row_copyFrom rw_N ot_N rw_n rw_f ot_n ot_f Q) : ct_M vwCl l D [(cA, .int)] y_Row_copyFrom w_Row_copyFrom { frames := 2, cells := 0, slots := 0, locals := 42 } [.ref rw, .ref ot] (wd_Row2 cA rw rw_a ot ot_a rw_N ot_N rw_n rw_f ot_n ot_f) (ct_qv vwCl D [(cA, .int)] Q (fun u => wd_Row2 cA rw rw_a ot ot_a rw_N ot_N u.1 u.2 ot_n ot_f)) := by
  refine ct_enter (cc := b_Row_copyFrom) (maxL := 3) (ret := none) (by decide) rfl (Nat.le_of_ble_eq_true rfl) ?_
  intro p e s m args below meth c A ls hx hb hr hlk hml hts hown hA hS hP hK hN hD hl
  have hl : lv_has ls 3 [(0, .ref rw), (1, .ref ot)] := hl
  have htb : ∀ w ∈ tbl, w.before args s = true := fun w h => hts w (List.mem_cons_of_mem _ h)
  have hown : s.vm.findClass "DecimalPatterns$Row" = some m.cls := hown
  unfold wp_Row_copyFrom at hw
  have hL60 : ∀ (n60 : Nat) (x2 : Int32) (rw_n : Int32) (rw_f : Nat → Int32) (H : Heap) (locs : List Loc) (ls : Array Slot), lv_has ls 3 [(0, .ref rw), (1, .ref ot), (2, .int x2)] → va_P D vwCl (wd_Row2 cA rw rw_a ot ot_a rw_N ot_N rw_n rw_f ot_n ot_f) H → va_D A (wd_Row2 cA rw rw_a ot ot_a rw_N ot_N rw_n rw_f ot_n ot_f) → va_S A s.heap H locs → wp_Row_copyFrom_L60 n60 rw_N ot_N ot_n ot_f x2 rw_n rw_f Q → W p l e { frames := 2, cells := 0, slots := 0, locals := 42 } s m args below meth c H locs 0 0 (MQ below (ct_qv vwCl D [(cA, .int)] Q (fun u => wd_Row2 cA rw rw_a ot ot_a rw_N ot_N u.1 u.2 ot_n ot_f) A) args s 0 0 A) (F0 m 6 ls []) := by
    intro n60
    induction n60 with
    | zero => intro x2 rw_n rw_f H locs ls hl hP hD hS hw; exact hw.elim
    | succ n60 ih60 =>
      intro x2 rw_n rw_f H locs ls hl hP hD hS hw
      unfold wp_Row_copyFrom_L60 at hw
      refine lv_iload_n hx hb d_Row_copyFrom_6 rfl (lv_at hl 2 rfl) ?_
      refine lv_aload_n hx hb d_Row_copyFrom_7 rfl (lv_at hl 1 rfl) ?_
      refine va_get (ci := 4) (C := R_Rw) (T := F_Rw) (N := 2) hx hb htb in_Rw hown hK hP 2 rfl rfl 1 (by decide) (htb _ tw101) (fun _ h9 => h9) rfl d_Row_copyFrom_8 ?_
      refine lv_icmp_ge (tgt := 30) hx hb d_Row_copyFrom_11 rfl (fun hc => ?_) (fun hc => ?_)
      · have hw := hw.1 hc
        exact ct_vret hx hb hr hlk hK hS (rw_n, rw_f) hw hP hD d_Row_copyFrom_30
      · have hw := hw.2 hc
        refine lv_aload_n hx hb d_Row_copyFrom_14 rfl (lv_at hl 0 rfl) ?_
        refine lv_aload_n hx hb d_Row_copyFrom_15 rfl (lv_at hl 1 rfl) ?_
        refine lv_iload_n hx hb d_Row_copyFrom_16 rfl (lv_at hl 2 rfl) ?_
        refine ct_calli (wn := fun _ => wd_Row2 cA rw rw_a ot ot_a rw_N ot_N rw_n rw_f ot_n ot_f) (va_runV (As := [.int x2]) (rest := [.ref rw]) ⟨hx, hb, hml, hown, htb⟩ (c_Row_code l D cA ot ot_a ot_N ot_n ot_f x2 _ hw _) (ct_cwV 1 htb tw379 rfl rfl tw73 tw606 tw377 tw378 hd_Row_code ⟨by decide, by decide⟩) (ct_preV hP hD hK hN [2, 3] rfl (by decide) 2 rfl rfl _) rfl rfl hl.1 rfl (lv_room (Nat.le_of_ble_eq_true rfl)) d_Row_copyFrom_17 ⟨Nat.zero_le _, Nat.zero_le _⟩) hP hD hS hA [2, 3] [0, 1] [0, 1, 2, 3] rfl rfl (by decide) (by decide) (fun _ => rfl) (by decide) (fun r3 u4 H locs hw hP hD hS => ?_)
        have hP : va_P D vwCl (wd_Row2 cA rw rw_a ot ot_a rw_N ot_N rw_n rw_f ot_n ot_f) H := hP
        have hD : va_D A (wd_Row2 cA rw rw_a ot ot_a rw_N ot_N rw_n rw_f ot_n ot_f) := hD
        refine ct_callz (wn := fun u6 => wd_Row2 cA rw rw_a ot ot_a rw_N ot_N u6.1 u6.2 ot_n ot_f) (va_runV (As := [.int r3]) (rest := []) ⟨hx, hb, hml, hown, htb⟩ (c_Row_add l D cA rw rw_a rw_N rw_n rw_f r3 _ hw _) (ct_cwV 1 htb tw346 rfl rfl tw73 tw607 tw344 tw345 hd_Row_add ⟨by decide, by decide⟩) (ct_preV hP hD hK hN [0, 1] rfl (by decide) 0 rfl rfl _) rfl rfl hl.1 rfl (lv_room (Nat.le_of_ble_eq_true rfl)) d_Row_copyFrom_20 ⟨Nat.zero_le _, Nat.zero_le _⟩) hP hD hS hA [0, 1] [2, 3] [2, 3, 0, 1] rfl rfl (by decide) (by decide) (fun _ => rfl) (by decide) (fun r5 u6 H locs hw hP hD hS => ?_)
        have hP : va_P D vwCl (wd_Row2 cA rw rw_a ot ot_a rw_N ot_N u6.1 u6.2 ot_n ot_f) H := hP
        have hD : va_D A (wd_Row2 cA rw rw_a ot ot_a rw_N ot_N u6.1 u6.2 ot_n ot_f) := hD
        refine lv_pop hx hb d_Row_copyFrom_23 rfl ?_
        refine lv_iinc (k := 2) (v := x2 + 1) (lv' := [(2, .int (x2 + 1)), (0, .ref rw), (1, .ref ot)]) hx hb d_Row_copyFrom_24 hl rfl (by rfl) (by decide) rfl (fun ls hl => ?_)
        refine lv_goto (tgt := 6) hx hb d_Row_copyFrom_27 rfl ?_
        exact ih60 (x2 + 1) u6.1 u6.2 _ _ _ (lv_sub hl [1, 2, 0] rfl) hP hD hS hw
  refine lv_aload_n hx hb d_Row_copyFrom_0 rfl (lv_at hl 0 rfl) ?_
  refine ct_callv (wn := fun u2 => wd_Row2 cA rw rw_a ot ot_a rw_N ot_N u2 rw_f ot_n ot_f) (va_runV (As := []) (rest := []) ⟨hx, hb, hml, hown, htb⟩ (c_Row_clear l D cA rw rw_a rw_N rw_n rw_f _ hw _) (ct_cwV 0 htb tw354 rfl rfl tw73 tw605 tw352 tw353 hd_Row_clear ⟨by decide, by decide⟩) (ct_preV hP hD hK hN [0, 1] rfl (by decide) 0 rfl rfl _) rfl rfl hl.1 rfl (lv_room (Nat.le_of_ble_eq_true rfl)) d_Row_copyFrom_1 ⟨Nat.zero_le _, Nat.zero_le _⟩) hP hD hS hA [0, 1] [2, 3] [2, 3, 0, 1] rfl rfl (by decide) (by decide) (fun _ => rfl) (by decide) (fun u2 H locs hw hP hD hS => ?_)
  have hP : va_P D vwCl (wd_Row2 cA rw rw_a ot ot_a rw_N ot_N u2 rw_f ot_n ot_f) H := hP
  have hD : va_D A (wd_Row2 cA rw rw_a ot ot_a rw_N ot_N u2 rw_f ot_n ot_f) := hD
  refine lv_iconst (v := 0) hx hb d_Row_copyFrom_4 (by decide) ?_
  refine lv_istore_n (lv' := [(2, .int 0), (0, .ref rw), (1, .ref ot)]) hx hb d_Row_copyFrom_5 rfl hl (by decide) rfl (fun ls hl => ?_)
  obtain ⟨n60, hw⟩ := hw
  exact hL60 n60 0 u2 rw_f _ _ _ (lv_sub hl [1, 2, 0] rfl) hP hD hS hw
/-! DecimalPatterns$Row.isSameAs(LDecimalPatterns$Row;)Z -/
def wp_Row_isSameAs_L150 : Nat → Nat → Nat → Int32 → (Nat → Int32) → Int32 → (Nat → Int32) → Int32 → (Bool → Unit → Prop) → Prop
  | 0, _, _, _, _, _, _, _, _ => False
  | n150 + 1, rw_N, ot_N, rw_n, rw_f, ot_n, ot_f, x2, Q => (rw_n ≤ x2 → (Q true ())) ∧ (¬ rw_n ≤ x2 → (wp_Row_code rw_N rw_n rw_f x2 (fun r1 u2 => wp_Row_code ot_N ot_n ot_f x2 (fun r3 u4 => (r1 = r3 → (wp_Row_isSameAs_L150 n150 rw_N ot_N rw_n rw_f ot_n ot_f (x2 + 1) Q)) ∧ (¬ r1 = r3 → (Q false ()))))))
def wp_Row_isSameAs (rw_N ot_N : Nat) (rw_n : Int32) (rw_f : Nat → Int32) (ot_n : Int32) (ot_f : Nat → Int32) (Q : Bool → Unit → Prop) : Prop := (rw_n = ot_n → (∃ n150, wp_Row_isSameAs_L150 n150 rw_N ot_N rw_n rw_f ot_n ot_f 0 Q)) ∧ (¬ rw_n = ot_n → (Q false ()))
set_option maxHeartbeats 4000000 in
set_option maxRecDepth 100000 in
theorem c_Row_isSameAs (l : Launch) (D : va_G) (cA : ClassId) (rw rw_a ot ot_a : Nat) (rw_N ot_N : Nat) (rw_n : Int32) (rw_f : Nat → Int32) (ot_n : Int32) (ot_f : Nat → Int32) (Q : Bool → Unit → Prop) (hw : wp_Row_isSameAs rw_N ot_N rw_n rw_f ot_n ot_f Q) : ct_M vwCl l D [(cA, .int)] y_Row_isSameAs w_Row_isSameAs { frames := 2, cells := 0, slots := 0, locals := 42 } [.ref rw, .ref ot] (wd_Row2 cA rw rw_a ot ot_a rw_N ot_N rw_n rw_f ot_n ot_f) (ct_qz vwCl D [(cA, .int)] Q (fun u => wd_Row2 cA rw rw_a ot ot_a rw_N ot_N rw_n rw_f ot_n ot_f)) := by
  refine ct_enter (cc := b_Row_isSameAs) (maxL := 3) (ret := (some .boolean)) (by decide) rfl (Nat.le_of_ble_eq_true rfl) ?_
  intro p e s m args below meth c A ls hx hb hr hlk hml hts hown hA hS hP hK hN hD hl
  have hl : lv_has ls 3 [(0, .ref rw), (1, .ref ot)] := hl
  have htb : ∀ w ∈ tbl, w.before args s = true := fun w h => hts w (List.mem_cons_of_mem _ h)
  have hown : s.vm.findClass "DecimalPatterns$Row" = some m.cls := hown
  unfold wp_Row_isSameAs at hw
  have hL150 : ∀ (n150 : Nat) (x2 : Int32) (H : Heap) (locs : List Loc) (ls : Array Slot), lv_has ls 3 [(0, .ref rw), (1, .ref ot), (2, .int x2)] → va_P D vwCl (wd_Row2 cA rw rw_a ot ot_a rw_N ot_N rw_n rw_f ot_n ot_f) H → va_D A (wd_Row2 cA rw rw_a ot ot_a rw_N ot_N rw_n rw_f ot_n ot_f) → va_S A s.heap H locs → wp_Row_isSameAs_L150 n150 rw_N ot_N rw_n rw_f ot_n ot_f x2 Q → W p l e { frames := 2, cells := 0, slots := 0, locals := 42 } s m args below meth c H locs 0 0 (MQ below (ct_qz vwCl D [(cA, .int)] Q (fun u => wd_Row2 cA rw rw_a ot ot_a rw_N ot_N rw_n rw_f ot_n ot_f) A) args s 0 0 A) (F0 m 15 ls []) := by
    intro n150
    induction n150 with
    | zero => intro x2 H locs ls hl hP hD hS hw; exact hw.elim
    | succ n150 ih150 =>
      intro x2 H locs ls hl hP hD hS hw
      unfold wp_Row_isSameAs_L150 at hw
      refine lv_iload_n hx hb d_Row_isSameAs_15 rfl (lv_at hl 2 rfl) ?_
      refine lv_aload_n hx hb d_Row_isSameAs_16 rfl (lv_at hl 0 rfl) ?_
      refine va_get (ci := 4) (C := R_Rw) (T := F_Rw) (N := 2) hx hb htb in_Rw hown hK hP 0 rfl rfl 1 (by decide) (htb _ tw101) (fun _ h9 => h9) rfl d_Row_isSameAs_17 ?_
      refine lv_icmp_ge (tgt := 44) hx hb d_Row_isSameAs_20 rfl (fun hc => ?_) (fun hc => ?_)
      · have hw := hw.1 hc
        refine lv_iconst (v := 1) hx hb d_Row_isSameAs_44 (by decide) ?_
        exact ct_zret true hx hb hr hlk hK hS () hw hP hD d_Row_isSameAs_45
      · have hw := hw.2 hc
        refine lv_aload_n hx hb d_Row_isSameAs_23 rfl (lv_at hl 0 rfl) ?_
        refine lv_iload_n hx hb d_Row_isSameAs_24 rfl (lv_at hl 2 rfl) ?_
        refine ct_calli (wn := fun _ => wd_Row2 cA rw rw_a ot ot_a rw_N ot_N rw_n rw_f ot_n ot_f) (va_runV (As := [.int x2]) (rest := []) ⟨hx, hb, hml, hown, htb⟩ (c_Row_code l D cA rw rw_a rw_N rw_n rw_f x2 _ hw _) (ct_cwV 1 htb tw379 rfl rfl tw73 tw606 tw377 tw378 hd_Row_code ⟨by decide, by decide⟩) (ct_preV hP hD hK hN [0, 1] rfl (by decide) 0 rfl rfl _) rfl rfl hl.1 rfl (lv_room (Nat.le_of_ble_eq_true rfl)) d_Row_isSameAs_25 ⟨Nat.zero_le _, Nat.zero_le _⟩) hP hD hS hA [0, 1] [2, 3] [2, 3, 0, 1] rfl rfl (by decide) (by decide) (fun _ => rfl) (by decide) (fun r1 u2 H locs hw hP hD hS => ?_)
        have hP : va_P D vwCl (wd_Row2 cA rw rw_a ot ot_a rw_N ot_N rw_n rw_f ot_n ot_f) H := hP
        have hD : va_D A (wd_Row2 cA rw rw_a ot ot_a rw_N ot_N rw_n rw_f ot_n ot_f) := hD
        refine lv_aload_n hx hb d_Row_isSameAs_28 rfl (lv_at hl 1 rfl) ?_
        refine lv_iload_n hx hb d_Row_isSameAs_29 rfl (lv_at hl 2 rfl) ?_
        refine ct_calli (wn := fun _ => wd_Row2 cA rw rw_a ot ot_a rw_N ot_N rw_n rw_f ot_n ot_f) (va_runV (As := [.int x2]) (rest := [.int r1]) ⟨hx, hb, hml, hown, htb⟩ (c_Row_code l D cA ot ot_a ot_N ot_n ot_f x2 _ hw _) (ct_cwV 1 htb tw379 rfl rfl tw73 tw606 tw377 tw378 hd_Row_code ⟨by decide, by decide⟩) (ct_preV hP hD hK hN [2, 3] rfl (by decide) 2 rfl rfl _) rfl rfl hl.1 rfl (lv_room (Nat.le_of_ble_eq_true rfl)) d_Row_isSameAs_30 ⟨Nat.zero_le _, Nat.zero_le _⟩) hP hD hS hA [2, 3] [0, 1] [0, 1, 2, 3] rfl rfl (by decide) (by decide) (fun _ => rfl) (by decide) (fun r3 u4 H locs hw hP hD hS => ?_)
        have hP : va_P D vwCl (wd_Row2 cA rw rw_a ot ot_a rw_N ot_N rw_n rw_f ot_n ot_f) H := hP
        have hD : va_D A (wd_Row2 cA rw rw_a ot ot_a rw_N ot_N rw_n rw_f ot_n ot_f) := hD
        refine lv_icmp_eq (tgt := 38) hx hb d_Row_isSameAs_33 rfl (fun hc => ?_) (fun hc => ?_)
        · have hw := hw.1 hc
          refine lv_iinc (k := 2) (v := x2 + 1) (lv' := [(2, .int (x2 + 1)), (0, .ref rw), (1, .ref ot)]) hx hb d_Row_isSameAs_38 hl rfl (by rfl) (by decide) rfl (fun ls hl => ?_)
          refine lv_goto (tgt := 15) hx hb d_Row_isSameAs_41 rfl ?_
          exact ih150 (x2 + 1) _ _ _ (lv_sub hl [1, 2, 0] rfl) hP hD hS hw
        · have hw := hw.2 hc
          refine lv_iconst (v := 0) hx hb d_Row_isSameAs_36 (by decide) ?_
          exact ct_zret false hx hb hr hlk hK hS () hw hP hD d_Row_isSameAs_37
  refine lv_aload_n hx hb d_Row_isSameAs_0 rfl (lv_at hl 0 rfl) ?_
  refine va_get (ci := 4) (C := R_Rw) (T := F_Rw) (N := 2) hx hb htb in_Rw hown hK hP 0 rfl rfl 1 (by decide) (htb _ tw101) (fun _ h9 => h9) rfl d_Row_isSameAs_1 ?_
  refine lv_aload_n hx hb d_Row_isSameAs_4 rfl (lv_at hl 1 rfl) ?_
  refine va_get (ci := 4) (C := R_Rw) (T := F_Rw) (N := 2) hx hb htb in_Rw hown hK hP 2 rfl rfl 1 (by decide) (htb _ tw101) (fun _ h9 => h9) rfl d_Row_isSameAs_5 ?_
  refine lv_icmp_eq (tgt := 13) hx hb d_Row_isSameAs_8 rfl (fun hc => ?_) (fun hc => ?_)
  · have hw := hw.1 hc
    refine lv_iconst (v := 0) hx hb d_Row_isSameAs_13 (by decide) ?_
    refine lv_istore_n (lv' := [(2, .int 0), (0, .ref rw), (1, .ref ot)]) hx hb d_Row_isSameAs_14 rfl hl (by decide) rfl (fun ls hl => ?_)
    obtain ⟨n150, hw⟩ := hw
    exact hL150 n150 0 _ _ _ (lv_sub hl [1, 2, 0] rfl) hP hD hS hw
  · have hw := hw.2 hc
    refine lv_iconst (v := 0) hx hb d_Row_isSameAs_11 (by decide) ?_
    exact ct_zret false hx hb hr hlk hK hS () hw hP hD d_Row_isSameAs_12
end
