section
-- ===== PART A: goes FIRST, ahead of the names: the tables' words, and 'selects' of the private methods out of them =====
/-- a private method of a class that the tables say can be made, by its rows of tables_1 -/
def lw_okq (q : MethodName × Nat) : Prop := (q.1.cls ≠ "java/lang/invoke/MethodHandle" ∧ q.1.cls ≠ "java/lang/invoke/VarHandle") ∧ Cond.instantiable q.1.cls q.2 ∈ tables_1 ∧ Cond.privateMethod q.1 ∈ tables_1 ∧ Cond.instanceMethod q.1 ∈ tables_1
theorem lw_p0 : lw_okq (⟨"TokenReader", "nothingFollows", "()I"⟩, 9) := ⟨⟨by decide +kernel, by decide +kernel⟩, List.mem_of_getElem? (i := 17) (by decide +kernel), List.mem_of_getElem? (i := 191) (by decide +kernel), List.mem_of_getElem? (i := 192) (by decide +kernel)⟩
theorem lw_p1 : lw_okq (⟨"TokenReader", "readToken", "(I)I"⟩, 9) := ⟨⟨by decide +kernel, by decide +kernel⟩, List.mem_of_getElem? (i := 17) (by decide +kernel), List.mem_of_getElem? (i := 200) (by decide +kernel), List.mem_of_getElem? (i := 201) (by decide +kernel)⟩
theorem lw_p2 : lw_okq (⟨"TokenReader$Binaries", "readNumber", "(LTokenReader$Token;IZ)I"⟩, 1) := ⟨⟨by decide +kernel, by decide +kernel⟩, List.mem_of_getElem? (i := 76) (by decide +kernel), List.mem_of_getElem? (i := 208) (by decide +kernel), List.mem_of_getElem? (i := 209) (by decide +kernel)⟩
theorem lw_p3 : lw_okq (⟨"TokenReader$Binaries", "reaches", "(LTokenReader$Token;I)Z"⟩, 1) := ⟨⟨by decide +kernel, by decide +kernel⟩, List.mem_of_getElem? (i := 76) (by decide +kernel), List.mem_of_getElem? (i := 212) (by decide +kernel), List.mem_of_getElem? (i := 213) (by decide +kernel)⟩
theorem lw_p4 : lw_okq (⟨"TokenReader$Binaries", "signedAt", "(IIZ)I"⟩, 1) := ⟨⟨by decide +kernel, by decide +kernel⟩, List.mem_of_getElem? (i := 76) (by decide +kernel), List.mem_of_getElem? (i := 220) (by decide +kernel), List.mem_of_getElem? (i := 221) (by decide +kernel)⟩
theorem lw_p5 : lw_okq (⟨"TokenReader$Binaries", "readFixed", "(LTokenReader$Token;)I"⟩, 1) := ⟨⟨by decide +kernel, by decide +kernel⟩, List.mem_of_getElem? (i := 76) (by decide +kernel), List.mem_of_getElem? (i := 229) (by decide +kernel), List.mem_of_getElem? (i := 230) (by decide +kernel)⟩
theorem lw_p6 : lw_okq (⟨"TokenReader$Binaries", "readFloat", "(LTokenReader$Token;Z)I"⟩, 1) := ⟨⟨by decide +kernel, by decide +kernel⟩, List.mem_of_getElem? (i := 76) (by decide +kernel), List.mem_of_getElem? (i := 251) (by decide +kernel), List.mem_of_getElem? (i := 252) (by decide +kernel)⟩
theorem lw_p7 : lw_okq (⟨"TokenReader$Binaries", "readTruth", "(LTokenReader$Token;)I"⟩, 1) := ⟨⟨by decide +kernel, by decide +kernel⟩, List.mem_of_getElem? (i := 76) (by decide +kernel), List.mem_of_getElem? (i := 263) (by decide +kernel), List.mem_of_getElem? (i := 264) (by decide +kernel)⟩
theorem lw_p8 : lw_okq (⟨"TokenReader$Binaries", "readNumbered", "(LTokenReader$Token;I)I"⟩, 1) := ⟨⟨by decide +kernel, by decide +kernel⟩, List.mem_of_getElem? (i := 76) (by decide +kernel), List.mem_of_getElem? (i := 267) (by decide +kernel), List.mem_of_getElem? (i := 268) (by decide +kernel)⟩
theorem lw_p9 : lw_okq (⟨"TokenReader$Binaries", "readString", "(LTokenReader$Token;IZ)I"⟩, 1) := ⟨⟨by decide +kernel, by decide +kernel⟩, List.mem_of_getElem? (i := 76) (by decide +kernel), List.mem_of_getElem? (i := 271) (by decide +kernel), List.mem_of_getElem? (i := 272) (by decide +kernel)⟩
theorem lw_p10 : lw_okq (⟨"TokenReader$Binaries", "countAt", "(IIZ)I"⟩, 1) := ⟨⟨by decide +kernel, by decide +kernel⟩, List.mem_of_getElem? (i := 76) (by decide +kernel), List.mem_of_getElem? (i := 275) (by decide +kernel), List.mem_of_getElem? (i := 276) (by decide +kernel)⟩
theorem lw_p11 : lw_okq (⟨"TokenReader$Binaries", "readRow", "(LTokenReader$Token;)I"⟩, 1) := ⟨⟨by decide +kernel, by decide +kernel⟩, List.mem_of_getElem? (i := 76) (by decide +kernel), List.mem_of_getElem? (i := 288) (by decide +kernel), List.mem_of_getElem? (i := 289) (by decide +kernel)⟩
theorem lw_p12 : lw_okq (⟨"TokenReader$Binaries", "fillRow", "(LTokenReader$Token;III)I"⟩, 1) := ⟨⟨by decide +kernel, by decide +kernel⟩, List.mem_of_getElem? (i := 76) (by decide +kernel), List.mem_of_getElem? (i := 292) (by decide +kernel), List.mem_of_getElem? (i := 293) (by decide +kernel)⟩
theorem lw_p13 : lw_okq (⟨"TokenReader$Words", "readText", "(LTokenReader$Token;II)I"⟩, 2) := ⟨⟨by decide +kernel, by decide +kernel⟩, List.mem_of_getElem? (i := 52) (by decide +kernel), List.mem_of_getElem? (i := 305) (by decide +kernel), List.mem_of_getElem? (i := 306) (by decide +kernel)⟩
theorem lw_p14 : lw_okq (⟨"TokenReader$Strings", "putOne", "(LTokenReader$Token;II)I"⟩, 1) := ⟨⟨by decide +kernel, by decide +kernel⟩, List.mem_of_getElem? (i := 66) (by decide +kernel), List.mem_of_getElem? (i := 330) (by decide +kernel), List.mem_of_getElem? (i := 331) (by decide +kernel)⟩
theorem lw_p15 : lw_okq (⟨"TokenReader$Strings", "putEscaped", "(LTokenReader$Token;I)I"⟩, 1) := ⟨⟨by decide +kernel, by decide +kernel⟩, List.mem_of_getElem? (i := 66) (by decide +kernel), List.mem_of_getElem? (i := 334) (by decide +kernel), List.mem_of_getElem? (i := 335) (by decide +kernel)⟩
def lw_privs_1 : List (MethodName × Nat) := [(⟨"TokenReader", "nothingFollows", "()I"⟩, 9), (⟨"TokenReader", "readToken", "(I)I"⟩, 9), (⟨"TokenReader$Binaries", "readNumber", "(LTokenReader$Token;IZ)I"⟩, 1), (⟨"TokenReader$Binaries", "reaches", "(LTokenReader$Token;I)Z"⟩, 1), (⟨"TokenReader$Binaries", "signedAt", "(IIZ)I"⟩, 1), (⟨"TokenReader$Binaries", "readFixed", "(LTokenReader$Token;)I"⟩, 1), (⟨"TokenReader$Binaries", "readFloat", "(LTokenReader$Token;Z)I"⟩, 1), (⟨"TokenReader$Binaries", "readTruth", "(LTokenReader$Token;)I"⟩, 1), (⟨"TokenReader$Binaries", "readNumbered", "(LTokenReader$Token;I)I"⟩, 1), (⟨"TokenReader$Binaries", "readString", "(LTokenReader$Token;IZ)I"⟩, 1), (⟨"TokenReader$Binaries", "countAt", "(IIZ)I"⟩, 1), (⟨"TokenReader$Binaries", "readRow", "(LTokenReader$Token;)I"⟩, 1), (⟨"TokenReader$Binaries", "fillRow", "(LTokenReader$Token;III)I"⟩, 1), (⟨"TokenReader$Words", "readText", "(LTokenReader$Token;II)I"⟩, 2), (⟨"TokenReader$Strings", "putOne", "(LTokenReader$Token;II)I"⟩, 1), (⟨"TokenReader$Strings", "putEscaped", "(LTokenReader$Token;I)I"⟩, 1)]
theorem lw_r1 : ∀ q ∈ lw_privs_1, lw_okq q := List.forall_mem_cons.mpr ⟨lw_p0, List.forall_mem_cons.mpr ⟨lw_p1, List.forall_mem_cons.mpr ⟨lw_p2, List.forall_mem_cons.mpr ⟨lw_p3, List.forall_mem_cons.mpr ⟨lw_p4, List.forall_mem_cons.mpr ⟨lw_p5, List.forall_mem_cons.mpr ⟨lw_p6, List.forall_mem_cons.mpr ⟨lw_p7, List.forall_mem_cons.mpr ⟨lw_p8, List.forall_mem_cons.mpr ⟨lw_p9, List.forall_mem_cons.mpr ⟨lw_p10, List.forall_mem_cons.mpr ⟨lw_p11, List.forall_mem_cons.mpr ⟨lw_p12, List.forall_mem_cons.mpr ⟨lw_p13, List.forall_mem_cons.mpr ⟨lw_p14, List.forall_mem_cons.mpr ⟨lw_p15, fun _ h => absurd h List.not_mem_nil⟩⟩⟩⟩⟩⟩⟩⟩⟩⟩⟩⟩⟩⟩⟩⟩
theorem lw_p16 : lw_okq (⟨"TokenReader$Strings", "lineEndWidth", "(I)I"⟩, 1) := ⟨⟨by decide +kernel, by decide +kernel⟩, List.mem_of_getElem? (i := 66) (by decide +kernel), List.mem_of_getElem? (i := 338) (by decide +kernel), List.mem_of_getElem? (i := 339) (by decide +kernel)⟩
theorem lw_p17 : lw_okq (⟨"TokenReader$Strings", "octalWidth", "(I)I"⟩, 1) := ⟨⟨by decide +kernel, by decide +kernel⟩, List.mem_of_getElem? (i := 66) (by decide +kernel), List.mem_of_getElem? (i := 342) (by decide +kernel), List.mem_of_getElem? (i := 343) (by decide +kernel)⟩
theorem lw_p18 : lw_okq (⟨"TokenReader$Strings", "octalAt", "(II)I"⟩, 1) := ⟨⟨by decide +kernel, by decide +kernel⟩, List.mem_of_getElem? (i := 66) (by decide +kernel), List.mem_of_getElem? (i := 349) (by decide +kernel), List.mem_of_getElem? (i := 350) (by decide +kernel)⟩
theorem lw_p19 : lw_okq (⟨"TokenReader", "readLess", "()I"⟩, 9) := ⟨⟨by decide +kernel, by decide +kernel⟩, List.mem_of_getElem? (i := 17) (by decide +kernel), List.mem_of_getElem? (i := 361) (by decide +kernel), List.mem_of_getElem? (i := 362) (by decide +kernel)⟩
theorem lw_p20 : lw_okq (⟨"TokenReader", "pairMark", "(I)I"⟩, 9) := ⟨⟨by decide +kernel, by decide +kernel⟩, List.mem_of_getElem? (i := 17) (by decide +kernel), List.mem_of_getElem? (i := 366) (by decide +kernel), List.mem_of_getElem? (i := 367) (by decide +kernel)⟩
theorem lw_p21 : lw_okq (⟨"TokenReader$Strings", "endBase85", "(LTokenReader$Token;IJI)I"⟩, 1) := ⟨⟨by decide +kernel, by decide +kernel⟩, List.mem_of_getElem? (i := 66) (by decide +kernel), List.mem_of_getElem? (i := 375) (by decide +kernel), List.mem_of_getElem? (i := 376) (by decide +kernel)⟩
theorem lw_p22 : lw_okq (⟨"TokenReader", "readGreater", "()I"⟩, 9) := ⟨⟨by decide +kernel, by decide +kernel⟩, List.mem_of_getElem? (i := 17) (by decide +kernel), List.mem_of_getElem? (i := 394) (by decide +kernel), List.mem_of_getElem? (i := 395) (by decide +kernel)⟩
theorem lw_p23 : lw_okq (⟨"TokenReader", "openBrace", "()I"⟩, 9) := ⟨⟨by decide +kernel, by decide +kernel⟩, List.mem_of_getElem? (i := 17) (by decide +kernel), List.mem_of_getElem? (i := 398) (by decide +kernel), List.mem_of_getElem? (i := 399) (by decide +kernel)⟩
theorem lw_p24 : lw_okq (⟨"TokenReader", "closeBrace", "()I"⟩, 9) := ⟨⟨by decide +kernel, by decide +kernel⟩, List.mem_of_getElem? (i := 17) (by decide +kernel), List.mem_of_getElem? (i := 402) (by decide +kernel), List.mem_of_getElem? (i := 403) (by decide +kernel)⟩
theorem lw_p25 : lw_okq (⟨"TokenReader$Words", "readInteger", "(LTokenReader$Token;)I"⟩, 2) := ⟨⟨by decide +kernel, by decide +kernel⟩, List.mem_of_getElem? (i := 52) (by decide +kernel), List.mem_of_getElem? (i := 410) (by decide +kernel), List.mem_of_getElem? (i := 411) (by decide +kernel)⟩
theorem lw_p26 : lw_okq (⟨"TokenReader$Words", "readWithBase", "(LTokenReader$Token;)I"⟩, 2) := ⟨⟨by decide +kernel, by decide +kernel⟩, List.mem_of_getElem? (i := 52) (by decide +kernel), List.mem_of_getElem? (i := 435) (by decide +kernel), List.mem_of_getElem? (i := 436) (by decide +kernel)⟩
theorem lw_p27 : lw_okq (⟨"TokenReader$Words", "readReal", "(LTokenReader$Token;)I"⟩, 2) := ⟨⟨by decide +kernel, by decide +kernel⟩, List.mem_of_getElem? (i := 52) (by decide +kernel), List.mem_of_getElem? (i := 439) (by decide +kernel), List.mem_of_getElem? (i := 440) (by decide +kernel)⟩
theorem lw_p28 : lw_okq (⟨"TokenReader", "keepDraft", "()V"⟩, 9) := ⟨⟨by decide +kernel, by decide +kernel⟩, List.mem_of_getElem? (i := 17) (by decide +kernel), List.mem_of_getElem? (i := 456) (by decide +kernel), List.mem_of_getElem? (i := 457) (by decide +kernel)⟩
theorem lw_p29 : lw_okq (⟨"java/lang/Throwable", "fillInStackTrace", "(I)Ljava/lang/Throwable;"⟩, 6) := ⟨⟨by decide +kernel, by decide +kernel⟩, List.mem_of_getElem? (i := 541) (by decide +kernel), List.mem_of_getElem? (i := 539) (by decide +kernel), List.mem_of_getElem? (i := 540) (by decide +kernel)⟩
theorem lw_p30 : lw_okq (⟨"TokenReaderModel", "passBlanks", "()V"⟩, 30) := ⟨⟨by decide +kernel, by decide +kernel⟩, List.mem_of_getElem? (i := 652) (by decide +kernel), List.mem_of_getElem? (i := 765) (by decide +kernel), List.mem_of_getElem? (i := 766) (by decide +kernel)⟩
theorem lw_p31 : lw_okq (⟨"TokenReaderModel", "byteAt", "(I)I"⟩, 30) := ⟨⟨by decide +kernel, by decide +kernel⟩, List.mem_of_getElem? (i := 652) (by decide +kernel), List.mem_of_getElem? (i := 769) (by decide +kernel), List.mem_of_getElem? (i := 770) (by decide +kernel)⟩
def lw_privs_2 : List (MethodName × Nat) := [(⟨"TokenReader$Strings", "lineEndWidth", "(I)I"⟩, 1), (⟨"TokenReader$Strings", "octalWidth", "(I)I"⟩, 1), (⟨"TokenReader$Strings", "octalAt", "(II)I"⟩, 1), (⟨"TokenReader", "readLess", "()I"⟩, 9), (⟨"TokenReader", "pairMark", "(I)I"⟩, 9), (⟨"TokenReader$Strings", "endBase85", "(LTokenReader$Token;IJI)I"⟩, 1), (⟨"TokenReader", "readGreater", "()I"⟩, 9), (⟨"TokenReader", "openBrace", "()I"⟩, 9), (⟨"TokenReader", "closeBrace", "()I"⟩, 9), (⟨"TokenReader$Words", "readInteger", "(LTokenReader$Token;)I"⟩, 2), (⟨"TokenReader$Words", "readWithBase", "(LTokenReader$Token;)I"⟩, 2), (⟨"TokenReader$Words", "readReal", "(LTokenReader$Token;)I"⟩, 2), (⟨"TokenReader", "keepDraft", "()V"⟩, 9), (⟨"java/lang/Throwable", "fillInStackTrace", "(I)Ljava/lang/Throwable;"⟩, 6), (⟨"TokenReaderModel", "passBlanks", "()V"⟩, 30), (⟨"TokenReaderModel", "byteAt", "(I)I"⟩, 30)]
theorem lw_r2 : ∀ q ∈ lw_privs_2, lw_okq q := List.forall_mem_cons.mpr ⟨lw_p16, List.forall_mem_cons.mpr ⟨lw_p17, List.forall_mem_cons.mpr ⟨lw_p18, List.forall_mem_cons.mpr ⟨lw_p19, List.forall_mem_cons.mpr ⟨lw_p20, List.forall_mem_cons.mpr ⟨lw_p21, List.forall_mem_cons.mpr ⟨lw_p22, List.forall_mem_cons.mpr ⟨lw_p23, List.forall_mem_cons.mpr ⟨lw_p24, List.forall_mem_cons.mpr ⟨lw_p25, List.forall_mem_cons.mpr ⟨lw_p26, List.forall_mem_cons.mpr ⟨lw_p27, List.forall_mem_cons.mpr ⟨lw_p28, List.forall_mem_cons.mpr ⟨lw_p29, List.forall_mem_cons.mpr ⟨lw_p30, List.forall_mem_cons.mpr ⟨lw_p31, fun _ h => absurd h List.not_mem_nil⟩⟩⟩⟩⟩⟩⟩⟩⟩⟩⟩⟩⟩⟩⟩⟩
theorem lw_p32 : lw_okq (⟨"TokenReaderModel", "read", "(I)I"⟩, 30) := ⟨⟨by decide +kernel, by decide +kernel⟩, List.mem_of_getElem? (i := 652) (by decide +kernel), List.mem_of_getElem? (i := 776) (by decide +kernel), List.mem_of_getElem? (i := 777) (by decide +kernel)⟩
theorem lw_p33 : lw_okq (⟨"TokenReaderModel", "anyWord", "()I"⟩, 30) := ⟨⟨by decide +kernel, by decide +kernel⟩, List.mem_of_getElem? (i := 652) (by decide +kernel), List.mem_of_getElem? (i := 786) (by decide +kernel), List.mem_of_getElem? (i := 787) (by decide +kernel)⟩
theorem lw_p34 : lw_okq (⟨"TokenReaderModel", "word", "()I"⟩, 30) := ⟨⟨by decide +kernel, by decide +kernel⟩, List.mem_of_getElem? (i := 652) (by decide +kernel), List.mem_of_getElem? (i := 790) (by decide +kernel), List.mem_of_getElem? (i := 791) (by decide +kernel)⟩
theorem lw_p35 : lw_okq (⟨"TokenReaderModel", "isInteger", "(II)Z"⟩, 30) := ⟨⟨by decide +kernel, by decide +kernel⟩, List.mem_of_getElem? (i := 652) (by decide +kernel), List.mem_of_getElem? (i := 794) (by decide +kernel), List.mem_of_getElem? (i := 795) (by decide +kernel)⟩
theorem lw_p36 : lw_okq (⟨"TokenReaderModel", "digitsFrom", "(II)I"⟩, 30) := ⟨⟨by decide +kernel, by decide +kernel⟩, List.mem_of_getElem? (i := 652) (by decide +kernel), List.mem_of_getElem? (i := 798) (by decide +kernel), List.mem_of_getElem? (i := 799) (by decide +kernel)⟩
theorem lw_p37 : lw_okq (⟨"TokenReaderModel", "withBase", "(II)I"⟩, 30) := ⟨⟨by decide +kernel, by decide +kernel⟩, List.mem_of_getElem? (i := 652) (by decide +kernel), List.mem_of_getElem? (i := 810) (by decide +kernel), List.mem_of_getElem? (i := 811) (by decide +kernel)⟩
theorem lw_p38 : lw_okq (⟨"TokenReaderModel", "asReal", "(II)I"⟩, 30) := ⟨⟨by decide +kernel, by decide +kernel⟩, List.mem_of_getElem? (i := 652) (by decide +kernel), List.mem_of_getElem? (i := 817) (by decide +kernel), List.mem_of_getElem? (i := 818) (by decide +kernel)⟩
theorem lw_p39 : lw_okq (⟨"TokenReaderModel", "slashed", "()I"⟩, 30) := ⟨⟨by decide +kernel, by decide +kernel⟩, List.mem_of_getElem? (i := 652) (by decide +kernel), List.mem_of_getElem? (i := 823) (by decide +kernel), List.mem_of_getElem? (i := 824) (by decide +kernel)⟩
theorem lw_p40 : lw_okq (⟨"TokenReaderModel", "round", "()I"⟩, 30) := ⟨⟨by decide +kernel, by decide +kernel⟩, List.mem_of_getElem? (i := 652) (by decide +kernel), List.mem_of_getElem? (i := 827) (by decide +kernel), List.mem_of_getElem? (i := 828) (by decide +kernel)⟩
theorem lw_p41 : lw_okq (⟨"TokenReaderModel", "escape", "()V"⟩, 30) := ⟨⟨by decide +kernel, by decide +kernel⟩, List.mem_of_getElem? (i := 652) (by decide +kernel), List.mem_of_getElem? (i := 831) (by decide +kernel), List.mem_of_getElem? (i := 832) (by decide +kernel)⟩
theorem lw_p42 : lw_okq (⟨"TokenReaderModel", "putSign", "(I)V"⟩, 30) := ⟨⟨by decide +kernel, by decide +kernel⟩, List.mem_of_getElem? (i := 652) (by decide +kernel), List.mem_of_getElem? (i := 835) (by decide +kernel), List.mem_of_getElem? (i := 836) (by decide +kernel)⟩
theorem lw_p43 : lw_okq (⟨"TokenReaderModel", "finished", "()I"⟩, 30) := ⟨⟨by decide +kernel, by decide +kernel⟩, List.mem_of_getElem? (i := 652) (by decide +kernel), List.mem_of_getElem? (i := 839) (by decide +kernel), List.mem_of_getElem? (i := 840) (by decide +kernel)⟩
theorem lw_p44 : lw_okq (⟨"TokenReaderModel", "lacking", "()I"⟩, 30) := ⟨⟨by decide +kernel, by decide +kernel⟩, List.mem_of_getElem? (i := 652) (by decide +kernel), List.mem_of_getElem? (i := 843) (by decide +kernel), List.mem_of_getElem? (i := 844) (by decide +kernel)⟩
theorem lw_p45 : lw_okq (⟨"TokenReaderModel", "angled", "()I"⟩, 30) := ⟨⟨by decide +kernel, by decide +kernel⟩, List.mem_of_getElem? (i := 652) (by decide +kernel), List.mem_of_getElem? (i := 847) (by decide +kernel), List.mem_of_getElem? (i := 848) (by decide +kernel)⟩
theorem lw_p46 : lw_okq (⟨"TokenReaderModel", "eightyFives", "()I"⟩, 30) := ⟨⟨by decide +kernel, by decide +kernel⟩, List.mem_of_getElem? (i := 652) (by decide +kernel), List.mem_of_getElem? (i := 851) (by decide +kernel), List.mem_of_getElem? (i := 852) (by decide +kernel)⟩
theorem lw_p47 : lw_okq (⟨"TokenReaderModel", "wrongByte", "(I)I"⟩, 30) := ⟨⟨by decide +kernel, by decide +kernel⟩, List.mem_of_getElem? (i := 652) (by decide +kernel), List.mem_of_getElem? (i := 857) (by decide +kernel), List.mem_of_getElem? (i := 858) (by decide +kernel)⟩
def lw_privs_3 : List (MethodName × Nat) := [(⟨"TokenReaderModel", "read", "(I)I"⟩, 30), (⟨"TokenReaderModel", "anyWord", "()I"⟩, 30), (⟨"TokenReaderModel", "word", "()I"⟩, 30), (⟨"TokenReaderModel", "isInteger", "(II)Z"⟩, 30), (⟨"TokenReaderModel", "digitsFrom", "(II)I"⟩, 30), (⟨"TokenReaderModel", "withBase", "(II)I"⟩, 30), (⟨"TokenReaderModel", "asReal", "(II)I"⟩, 30), (⟨"TokenReaderModel", "slashed", "()I"⟩, 30), (⟨"TokenReaderModel", "round", "()I"⟩, 30), (⟨"TokenReaderModel", "escape", "()V"⟩, 30), (⟨"TokenReaderModel", "putSign", "(I)V"⟩, 30), (⟨"TokenReaderModel", "finished", "()I"⟩, 30), (⟨"TokenReaderModel", "lacking", "()I"⟩, 30), (⟨"TokenReaderModel", "angled", "()I"⟩, 30), (⟨"TokenReaderModel", "eightyFives", "()I"⟩, 30), (⟨"TokenReaderModel", "wrongByte", "(I)I"⟩, 30)]
theorem lw_r3 : ∀ q ∈ lw_privs_3, lw_okq q := List.forall_mem_cons.mpr ⟨lw_p32, List.forall_mem_cons.mpr ⟨lw_p33, List.forall_mem_cons.mpr ⟨lw_p34, List.forall_mem_cons.mpr ⟨lw_p35, List.forall_mem_cons.mpr ⟨lw_p36, List.forall_mem_cons.mpr ⟨lw_p37, List.forall_mem_cons.mpr ⟨lw_p38, List.forall_mem_cons.mpr ⟨lw_p39, List.forall_mem_cons.mpr ⟨lw_p40, List.forall_mem_cons.mpr ⟨lw_p41, List.forall_mem_cons.mpr ⟨lw_p42, List.forall_mem_cons.mpr ⟨lw_p43, List.forall_mem_cons.mpr ⟨lw_p44, List.forall_mem_cons.mpr ⟨lw_p45, List.forall_mem_cons.mpr ⟨lw_p46, List.forall_mem_cons.mpr ⟨lw_p47, fun _ h => absurd h List.not_mem_nil⟩⟩⟩⟩⟩⟩⟩⟩⟩⟩⟩⟩⟩⟩⟩⟩
theorem lw_p48 : lw_okq (⟨"TokenReaderModel", "some", "(JI)V"⟩, 30) := ⟨⟨by decide +kernel, by decide +kernel⟩, List.mem_of_getElem? (i := 652) (by decide +kernel), List.mem_of_getElem? (i := 861) (by decide +kernel), List.mem_of_getElem? (i := 862) (by decide +kernel)⟩
theorem lw_p49 : lw_okq (⟨"TokenReaderModel", "sixteens", "()I"⟩, 30) := ⟨⟨by decide +kernel, by decide +kernel⟩, List.mem_of_getElem? (i := 652) (by decide +kernel), List.mem_of_getElem? (i := 867) (by decide +kernel), List.mem_of_getElem? (i := 868) (by decide +kernel)⟩
theorem lw_p50 : lw_okq (⟨"TokenReaderModel", "binaryToken", "(I)I"⟩, 30) := ⟨⟨by decide +kernel, by decide +kernel⟩, List.mem_of_getElem? (i := 652) (by decide +kernel), List.mem_of_getElem? (i := 871) (by decide +kernel), List.mem_of_getElem? (i := 872) (by decide +kernel)⟩
theorem lw_p51 : lw_okq (⟨"TokenReaderModel", "number", "(IZ)I"⟩, 30) := ⟨⟨by decide +kernel, by decide +kernel⟩, List.mem_of_getElem? (i := 652) (by decide +kernel), List.mem_of_getElem? (i := 875) (by decide +kernel), List.mem_of_getElem? (i := 876) (by decide +kernel)⟩
theorem lw_p52 : lw_okq (⟨"TokenReaderModel", "came", "(I)Z"⟩, 30) := ⟨⟨by decide +kernel, by decide +kernel⟩, List.mem_of_getElem? (i := 652) (by decide +kernel), List.mem_of_getElem? (i := 879) (by decide +kernel), List.mem_of_getElem? (i := 880) (by decide +kernel)⟩
theorem lw_p53 : lw_okq (⟨"TokenReaderModel", "signed", "(IIZ)J"⟩, 30) := ⟨⟨by decide +kernel, by decide +kernel⟩, List.mem_of_getElem? (i := 652) (by decide +kernel), List.mem_of_getElem? (i := 883) (by decide +kernel), List.mem_of_getElem? (i := 884) (by decide +kernel)⟩
theorem lw_p54 : lw_okq (⟨"TokenReaderModel", "fixed", "()I"⟩, 30) := ⟨⟨by decide +kernel, by decide +kernel⟩, List.mem_of_getElem? (i := 652) (by decide +kernel), List.mem_of_getElem? (i := 892) (by decide +kernel), List.mem_of_getElem? (i := 893) (by decide +kernel)⟩
theorem lw_p55 : lw_okq (⟨"TokenReaderModel", "four", "(IZ)D"⟩, 30) := ⟨⟨by decide +kernel, by decide +kernel⟩, List.mem_of_getElem? (i := 652) (by decide +kernel), List.mem_of_getElem? (i := 900) (by decide +kernel), List.mem_of_getElem? (i := 901) (by decide +kernel)⟩
theorem lw_p56 : lw_okq (⟨"TokenReaderModel", "one", "(IZ)I"⟩, 30) := ⟨⟨by decide +kernel, by decide +kernel⟩, List.mem_of_getElem? (i := 652) (by decide +kernel), List.mem_of_getElem? (i := 906) (by decide +kernel), List.mem_of_getElem? (i := 907) (by decide +kernel)⟩
theorem lw_p57 : lw_okq (⟨"TokenReaderModel", "string", "(IZ)I"⟩, 30) := ⟨⟨by decide +kernel, by decide +kernel⟩, List.mem_of_getElem? (i := 652) (by decide +kernel), List.mem_of_getElem? (i := 910) (by decide +kernel), List.mem_of_getElem? (i := 911) (by decide +kernel)⟩
theorem lw_p58 : lw_okq (⟨"TokenReaderModel", "rows", "()I"⟩, 30) := ⟨⟨by decide +kernel, by decide +kernel⟩, List.mem_of_getElem? (i := 652) (by decide +kernel), List.mem_of_getElem? (i := 914) (by decide +kernel), List.mem_of_getElem? (i := 915) (by decide +kernel)⟩
theorem lw_p59 : lw_okq (⟨"TokenReaderModel", "bracket", "(I)I"⟩, 30) := ⟨⟨by decide +kernel, by decide +kernel⟩, List.mem_of_getElem? (i := 652) (by decide +kernel), List.mem_of_getElem? (i := 918) (by decide +kernel), List.mem_of_getElem? (i := 919) (by decide +kernel)⟩
theorem lw_p60 : lw_okq (⟨"TokenReaderModel", "keep", "(I)V"⟩, 30) := ⟨⟨by decide +kernel, by decide +kernel⟩, List.mem_of_getElem? (i := 652) (by decide +kernel), List.mem_of_getElem? (i := 922) (by decide +kernel), List.mem_of_getElem? (i := 923) (by decide +kernel)⟩
def lw_privs_4 : List (MethodName × Nat) := [(⟨"TokenReaderModel", "some", "(JI)V"⟩, 30), (⟨"TokenReaderModel", "sixteens", "()I"⟩, 30), (⟨"TokenReaderModel", "binaryToken", "(I)I"⟩, 30), (⟨"TokenReaderModel", "number", "(IZ)I"⟩, 30), (⟨"TokenReaderModel", "came", "(I)Z"⟩, 30), (⟨"TokenReaderModel", "signed", "(IIZ)J"⟩, 30), (⟨"TokenReaderModel", "fixed", "()I"⟩, 30), (⟨"TokenReaderModel", "four", "(IZ)D"⟩, 30), (⟨"TokenReaderModel", "one", "(IZ)I"⟩, 30), (⟨"TokenReaderModel", "string", "(IZ)I"⟩, 30), (⟨"TokenReaderModel", "rows", "()I"⟩, 30), (⟨"TokenReaderModel", "bracket", "(I)I"⟩, 30), (⟨"TokenReaderModel", "keep", "(I)V"⟩, 30)]
theorem lw_r4 : ∀ q ∈ lw_privs_4, lw_okq q := List.forall_mem_cons.mpr ⟨lw_p48, List.forall_mem_cons.mpr ⟨lw_p49, List.forall_mem_cons.mpr ⟨lw_p50, List.forall_mem_cons.mpr ⟨lw_p51, List.forall_mem_cons.mpr ⟨lw_p52, List.forall_mem_cons.mpr ⟨lw_p53, List.forall_mem_cons.mpr ⟨lw_p54, List.forall_mem_cons.mpr ⟨lw_p55, List.forall_mem_cons.mpr ⟨lw_p56, List.forall_mem_cons.mpr ⟨lw_p57, List.forall_mem_cons.mpr ⟨lw_p58, List.forall_mem_cons.mpr ⟨lw_p59, List.forall_mem_cons.mpr ⟨lw_p60, fun _ h => absurd h List.not_mem_nil⟩⟩⟩⟩⟩⟩⟩⟩⟩⟩⟩⟩⟩
def lw_privs : List (MethodName × Nat) := lw_privs_1 ++ (lw_privs_2 ++ (lw_privs_3 ++ (lw_privs_4)))
def lw_tbl : List Cond := k2_sels lw_privs ++ tables_1
theorem lw_privs_ok : ∀ q ∈ lw_privs, lw_okq q := by
  show ∀ q ∈ lw_privs_1 ++ (lw_privs_2 ++ (lw_privs_3 ++ (lw_privs_4))), lw_okq q
  exact List.forall_mem_append.mpr ⟨lw_r1, List.forall_mem_append.mpr ⟨lw_r2, List.forall_mem_append.mpr ⟨lw_r3, lw_r4⟩⟩⟩
/-- the streams that the claim lets the run draw from -/
abbrev lw_cs : List Choice := [Jvm.Choice.named "NaN.bits"]
theorem lw_bits : nanBits ∈ lw_cs := by first | decide | exact List.mem_cons_self | simp [lw_cs, nanBits]
/-! ===== BEGIN words of one list among another's, by their places ===== -/
theorem goodIn_r {big : List Cond} (ws : List Cond) (ps : List Nat) (hp : ws = ps.filterMap (fun i => big[i]?)) (h : ws.all goodWord = true) : GoodIn big ws := by
  intro w hw
  have h1 := List.all_eq_true.mp h w hw
  rw [hp] at hw
  obtain ⟨i, -, hi⟩ := List.mem_filterMap.mp hw
  have hm : w ∈ big := by first | exact List.mem_of_getElem? hi | exact List.getElem?_mem hi
  exact ⟨hm, good_of_word h1⟩
theorem goodIn_app {big a b : List Cond} (ha : GoodIn big a) (hb : GoodIn big b) : GoodIn big (a ++ b) := fun w h => (List.mem_append.mp h).elim (ha w) (hb w)
theorem goodIn_ca {big a b : List Cond} {c : Cond} (ha : GoodIn big (c :: a)) (hb : GoodIn big b) : GoodIn big (c :: (a ++ b)) := fun w h => (List.mem_cons.mp h).elim (fun e => ha w (List.mem_cons.mpr (Or.inl e))) (fun h => (List.mem_append.mp h).elim (fun h => ha w (List.mem_cons.mpr (Or.inr h))) (hb w))
theorem goodIn_sub {big ws : List Cond} (hm : ∀ w ∈ ws, w ∈ big) (h : ws.all goodWord = true) : GoodIn big ws := fun w hw => ⟨hm w hw, good_of_word (List.all_eq_true.mp h w hw)⟩
/-! ===== END ===== -/

/-! ===== BEGIN exceptions that leave a method, and their catching by the caller (launches without stack traces) ===== -/
section VXA
/-! The laws vx_back, vx_callV, vx_callS, vx_callSW, vx_throw0, vx_throwS follow proofs of the library, with one case more: JvmDerived/Free/Laws.lean (Back.of_free), Shelf42/LK1.lean (callV, callS), Shelf/KitTraced.lean (throwNew0V, throwNewS). -/
/-- where a method has thrown q: the class by its name, the cell, what was written, the world -/
def vx_T (XC : String → State → State → Prop) (st : State) (q : Addr) (t : State) (mc ms : Nat) (free : Addr → Prop) : Prop :=
  ∃ (E : String) (ce : Cell) (L : List Loc), XC E st t ∧ t.heap[q]? = some ce ∧ ce.vm = .none ∧ st.vm.findClass E = some ce.cls ∧ st.WarmedH t.vm ∧ st.sameButNew ({ t with vm := st.vm } : State) L mc ms ∧ ∀ z ∈ L, free z.base
def vx_Q (Qc : Array Value → State → Outcome → State → Prop) (XC : String → State → State → Prop) (mc ms : Nat) (free : Addr → Prop) : Array Value → State → Outcome → State → Prop := fun a st o t =>
  (Qc a st o t ∧ ∃ L, FrameEnd st o t L mc ms ∧ ∀ q ∈ L, free q.base) ∨ ∃ q, o = .threw q ∧ vx_T XC st q t mc ms free
/-- a callee that returns or throws -/
def vx_Met (l : Launch) (y : MethodName) (ws : List Cond) (rm : Room) (Pc : Array Value → State → Prop) (Qc : Array Value → State → Outcome → State → Prop) (XC : String → State → State → Prop) (mc ms : Nat) (free : Addr → Prop) : Prop :=
  MetFree l y (headSpec ws rm) Pc (fun _ _ _ _ _ => True) (vx_Q Qc XC mc ms free)
def vx_Post (XC : String → State → State → Prop) (mc ms : Nat) (free : Addr → Prop) : Pt → Array Value → Addr → Pt → Prop := fun A a q B =>
  ∃ (g : JFrame) (mk : MethodId) (t : State) (L : List Loc) (E : String) (ce : Cell), B.U.heap = t.heap ∧ B.U.vm = t.vm ∧ XC E (A.U.calling g mk a) t ∧ t.heap[q]? = some ce ∧ ce.vm = .none ∧ A.U.vm.findClass E = some ce.cls ∧ B.locs = A.locs ++ L ∧ (∀ z ∈ L, free z.base) ∧ B.cells = A.cells + mc ∧ B.slots = A.slots + ms
def vx_Back (l : Launch) (R : Room) (p : Program) (e : Env) (below : List Frame) (s : State) (sargs : Array Value) (y : MethodName) (len W9 : Nat)
    (Pre : Pt → Array Value → Prop) (Post : Pt → Array Value → Option Value → Pt → Prop) (PostX : Pt → Array Value → Addr → Pt → Prop) : Prop :=
  ∀ (m : MethodId) (meth : Method) (c : Code) (A : Pt) (g : JFrame) (ig : Instr) (mk : MethodId) (a : Array Value),
    Stand p l e R s m sargs below meth c A.U A.locs A.cells A.slots → g.method = m → g.locals.size = c.maxLocals → decode c.code g.pc = .ok (ig, len) →
    2 * g.monitorRoom + (g.stack.map fun v => v.category).sum ≤ W9 → A.U.methodNamed? y = some mk → Pre A a →
    (∃ (v : Option Value) (B : Pt), Stand p l e R s m sargs below meth c B.U B.locs B.cells B.slots ∧ Post A a v B ∧
      Steps p.tables e below (doInvoke e (A.U.setTop g) [] mk a).1 (B.U.setTop { g with pc := g.pc + len, stack := v.toList ++ g.stack })) ∨
    (∃ (q : Addr) (B : Pt), Stand p l e R s m sargs below meth c B.U B.locs B.cells B.slots ∧ PostX A a q B ∧
      Steps p.tables e below (doInvoke e (A.U.setTop g) [] mk a).1 ((B.U.setTop g).pushFrame (.throwing q)))
section Payer
variable {l : Launch} {R : Room} {p : Program} {e : Env} {below : List Frame} {s : State} {sargs : Array Value} {y : MethodName} {len W9 : Nat}
theorem vx_back {ws : List Cond} {rm : Room} {Pc : Array Value → State → Prop} {Qc : Array Value → State → Outcome → State → Prop} {XC : String → State → State → Prop} {mc ms : Nat} {free : Addr → Prop} {bytes : ByteArray} {maxL : Nat} {ret : Option FieldType}
    (hM : vx_Met l y ws rm Pc Qc XC mc ms free) (hblind : FrameBlind Pc) (hrc : rm.cells = mc) (hrs : rm.slots = ms)
    (hframes : rm.frames + 1 ≤ R.frames) (hlocals : W9 + (maxL + 11) + rm.locals ≤ R.locals)
    (hws : ∀ w ∈ ws, ∀ a' U, s.WarmedH U.vm → w.before a' U = true) (hcode : Cond.code y bytes maxL ret ∈ ws) (hinit : ∀ a' U, s.WarmedH U.vm → (Cond.initialized y.cls).before a' U = true) :
    vx_Back l R p e below s sargs y len W9 (PreOf R mc ms Pc) (PostOf Qc mc ms free) (vx_Post XC mc ms free) := by
  intro m meth c A g ig mk a X hg hsize hdg hW hn hp
  have h1 : (headSpec ws rm).pre.before a A.U = true := atoms_intro fun w hw => hws w hw _ _ X.warmed
  have h2 : (Cond.code y bytes maxL ret).before a A.U = true := hws _ hcode _ _ X.warmed
  have h3 : (Cond.initialized y.cls).before a A.U = true := hinit _ _ X.warmed
  have h4 : A.cells + (headSpec ws rm).room.cells ≤ R.cells := by rw [show (headSpec ws rm).room.cells = mc from hrc]; exact hp.1
  have h5 : A.slots + (headSpec ws rm).room.slots ≤ R.slots := by rw [show (headSpec ws rm).room.slots = ms from hrs]; exact hp.2.1
  have hPc : Pc a (A.U.calling g mk a) := hblind _ _ _ _ hp.2.2
  obtain ⟨U, Ls, c0, s0⟩ := A
  dsimp only [Pt.U, Pt.locs, Pt.cells, Pt.slots] at h1 h2 h3 h4 h5 X hn hPc ⊢
  obtain ⟨methY, cY, hmY, hcY, -, hlY, -, -, -, -⟩ := Cond.code_spec hn h2
  obtain ⟨kY, hkY, -⟩ := className_of_methodNamed hn
  have hinitY : kY.init = .initialized := Cond.initialized_spec (findClass_of_methodNamed hn) hkY h3
  have h : At U g.method c below := by rw [hg]; exact X.here
  have hlocals9 : W9 + (maxL + 11) + (headSpec ws rm).room.locals ≤ R.locals := hlocals
  have happ : (headSpec ws rm).appliesLoose y e.platform (U.calling g mk a) = true :=
    Spec.appliesLoose_calling (g := g) h hdg hn hkY hinitY
      (X.room_calling (g := g) (R' := (headSpec ws rm).room) hsize hmY hcY hframes (by rw [hlY]; omega) h4 h5) h1
  obtain ⟨mid, hmid⟩ := h.above
  have hfr : (U.setTop g).frames = (.java g :: mid) ++ below := by rw [State.frames_setTop' g h.top, hmid]; rfl
  obtain ⟨o, s₂, hsteps, -, hend, hq⟩ := Steps.callFree hM p X.admits X.cas X.clock (acts := []) hfr happ hPc trivial
  have hq' : vx_Q Qc XC mc ms free a (U.calling g mk a) o s₂ := hq
  rw [State.frames_setTop' g h.top] at hend
  obtain ⟨g₀, hg0⟩ := Option.isSome_iff_exists.mp h.top
  obtain ⟨r, hr⟩ := State.topJava?_eq_some.mp hg0
  have hr' : (({ U with heap := s₂.heap, slotsUsed := s₂.slotsUsed } : State).setVm s₂.vm).frames = .java g₀ :: r := hr
  rcases hq' with ⟨hqc, L, hfe, hL⟩ | ⟨q, rfl, E, ce, L, hx, hce, hcv, hcl, hW₂, hsm, hL⟩
  · obtain ⟨⟨v, rfl⟩, hW₂, e2, q2, q3, q4, q5, q6⟩ := id hfe
    have e3 : s₂ = ({ (U.calling g mk a).setFrames s₂.frames with heap := s₂.heap, slotsUsed := s₂.slotsUsed } : State).setVm s₂.vm := by
      have : s₂ = ({ s₂ with vm := (U.calling g mk a).vm } : State).setVm s₂.vm := rfl
      rw [e2] at this
      exact this
    obtain ⟨c₂, i₂, len₂, hc₂, hd₂, hf₂⟩ := hend
    have hW' : U.WarmedH s₂.vm := hW₂
    have hcc : c₂ = c := by
      have h1 : s₂.code? g.method = U.code? g.method := by
        rw [State.code?_eq, State.code?_eq, hW'.alike.method?]
      exact Option.some.inj (hc₂.symm.trans (h1.trans h.code))
    subst hcc
    have hlen : len₂ = len := by rw [hdg] at hd₂; cases hd₂; rfl
    subst hlen
    have hs₂ : s₂ = (({ U with heap := s₂.heap, slotsUsed := s₂.slotsUsed } : State).setVm s₂.vm).setTop { g with pc := g.pc + len₂, stack := v.toList ++ g.stack } := by
      refine e3.trans ?_
      rw [hf₂, State.calling_eq h.top, State.setFrames_setFrames, State.setTop_of_frames _ hr', hr]
      rfl
    have hsame : U.sameButNew ({ U with heap := s₂.heap, slotsUsed := s₂.slotsUsed } : State) L mc ms := by
      refine ⟨?_, q2, q3, q4, q5, q6⟩
      obtain ⟨t, ht, -⟩ := State.frames_cons hr
      show ({ U with heap := s₂.heap, slotsUsed := s₂.slotsUsed } : State) = { U.setFrames U.frames with heap := s₂.heap, slotsUsed := s₂.slotsUsed }
      rw [State.setFrames_self ht]
    subst hg
    refine Or.inl ⟨v, ⟨(({ U with heap := s₂.heap, slotsUsed := s₂.slotsUsed } : State).setVm s₂.vm), Ls ++ L, c0 + mc, s0 + ms⟩,
      ⟨X.admits, X.cas, X.clock, X.frames, X.room, X.hears, X.method, X.code, (X.here.setHeapUsed s₂.heap s₂.slotsUsed).setVm hW'.alike, X.tail, State.WarmedH.trans X.warmed hW', X.limits, X.bytes, X.same.trans (hsame.setVm s.vm)⟩,
      ⟨g, mk, s₂, L, rfl, rfl, hqc, rfl, hL, rfl, rfl⟩, ?_⟩
    show Steps p.tables e below _ ((({ U with heap := s₂.heap, slotsUsed := s₂.slotsUsed } : State).setVm s₂.vm).setTop { g with pc := g.pc + len₂, stack := v.toList ++ g.stack })
    rw [← hs₂]
    exact hsteps
  · obtain ⟨e2, q2, q3, q4, q5, q6⟩ := id hsm
    have e3 : s₂ = ({ (U.calling g mk a).setFrames s₂.frames with heap := s₂.heap, slotsUsed := s₂.slotsUsed } : State).setVm s₂.vm := by
      have : s₂ = ({ s₂ with vm := (U.calling g mk a).vm } : State).setVm s₂.vm := rfl
      rw [e2] at this
      exact this
    have hf₂ : s₂.frames = .throwing q :: .java g :: U.frames.tail := hend
    have hW' : U.WarmedH s₂.vm := hW₂
    have hs₂ : s₂ = ((({ U with heap := s₂.heap, slotsUsed := s₂.slotsUsed } : State).setVm s₂.vm).setTop g).pushFrame (.throwing q) := by
      refine e3.trans ?_
      rw [hf₂, State.calling_eq h.top, State.setFrames_setFrames, State.pushFrame, State.frames_setTop _ hr', State.setTop_of_frames _ hr', State.setFrames_setFrames, hr]
      rfl
    have hsame : U.sameButNew ({ U with heap := s₂.heap, slotsUsed := s₂.slotsUsed } : State) L mc ms := by
      refine ⟨?_, q2, q3, q4, q5, q6⟩
      obtain ⟨t, ht, -⟩ := State.frames_cons hr
      show ({ U with heap := s₂.heap, slotsUsed := s₂.slotsUsed } : State) = { U.setFrames U.frames with heap := s₂.heap, slotsUsed := s₂.slotsUsed }
      rw [State.setFrames_self ht]
    subst hg
    refine Or.inr ⟨q, ⟨(({ U with heap := s₂.heap, slotsUsed := s₂.slotsUsed } : State).setVm s₂.vm), Ls ++ L, c0 + mc, s0 + ms⟩,
      ⟨X.admits, X.cas, X.clock, X.frames, X.room, X.hears, X.method, X.code, (X.here.setHeapUsed s₂.heap s₂.slotsUsed).setVm hW'.alike, X.tail, State.WarmedH.trans X.warmed hW', X.limits, X.bytes, X.same.trans (hsame.setVm s.vm)⟩,
      ⟨g, mk, s₂, L, E, ce, rfl, rfl, hx, hce, hcv, hcl, rfl, hL, rfl, rfl⟩, ?_⟩
    show Steps p.tables e below _ (((({ U with heap := s₂.heap, slotsUsed := s₂.slotsUsed } : State).setVm s₂.vm).setTop g).pushFrame (.throwing q))
    rw [← hs₂]
    exact hsteps
end Payer
section Calls
variable {p : Program} {l : Launch} {e : Env} {R : Room} {s : State} {m : MethodId} {args : Array Value} {below : List Frame} {meth : Method} {c : Code} {T : State} {locs : List Loc} {cells slots : Nat}
theorem vx_callV (X : Stand p l e R s m args below meth c T locs cells slots) (hexec : p.tables.exec = Jvm.exec) {own C : String} {index : Nat} {y : MethodName} {bytes : ByteArray} {maxL : Nat} {ret : Option FieldType}
    (hown : s.vm.findClass own = some m.cls) (hlink : (Cond.methodLink own index y).before args s = true) (hinst : (Cond.instanceMethod y).before args s = true) (hsel : (Cond.selects C y y).before args s = true)
    (hcode : (Cond.code y bytes maxL ret).before args s = true) (hy : y.cls ≠ "java/lang/invoke/MethodHandle" ∧ y.cls ≠ "java/lang/invoke/VarHandle")
    {W9 : Nat} {Pre : Pt → Array Value → Prop} {Post : Pt → Array Value → Option Value → Pt → Prop} {PostX : Pt → Array Value → Addr → Pt → Prop} (hK : vx_Back l R p e below s args y 3 W9 Pre Post PostX)
    {b : Addr} {cellB : Cell} (hcell : T.heap[b]? = some cellB) (hobj : cellB.vm.isStatics = false) (hcls : s.vm.findClass C = some cellB.cls)
    {g : JFrame} (hg : g.method = m) (hsize : g.locals.size = c.maxLocals) {argsL rest : List Value} (hlen : ∀ sig, parseMethodDescriptor y.desc = some sig → argsL.length = sig.parameters.length)
    (hstack : g.stack = argsL.reverse ++ .ref b :: rest) (hW : 2 * g.monitorRoom + (rest.map fun v => v.category).sum ≤ W9) (hdg : decode c.code g.pc = .ok (.invokevirtual index, 3))
    (hpre : ∀ vm₁, s.WarmedH vm₁ → Pre ⟨T.setVm vm₁, locs, cells, slots⟩ (Value.ref b :: argsL).toArray) :
    (∃ (v : Option Value) (vm₁ : Vm) (B : Pt), s.WarmedH vm₁ ∧ Stand p l e R s m args below meth c B.U B.locs B.cells B.slots ∧ Post ⟨T.setVm vm₁, locs, cells, slots⟩ (Value.ref b :: argsL).toArray v B ∧
      ∀ target, Steps p.tables e below (B.U.setTop { g with pc := g.pc + 3, stack := v.toList ++ rest }) target → Steps p.tables e below (T.setTop g) target) ∨
    (∃ (q : Addr) (vm₁ : Vm) (B : Pt), s.WarmedH vm₁ ∧ Stand p l e R s m args below meth c B.U B.locs B.cells B.slots ∧ PostX ⟨T.setVm vm₁, locs, cells, slots⟩ (Value.ref b :: argsL).toArray q B ∧
      Steps p.tables e below (T.setTop g) ((B.U.setTop { g with stack := rest }).pushFrame (.throwing q))) := by
  obtain ⟨mk, methM, hnamed, hmethM, hstM, habM⟩ := Cond.instanceMethod_spec hinst
  obtain ⟨methM', cM, hmethM', -, -, -, -, -, -, hsigM⟩ := Cond.code_spec hnamed hcode
  cases hmethM.symm.trans hmethM'
  obtain ⟨c2, r2, m2, q1, q2, q3, q4, kP, hkP, hkPi⟩ := Cond.selects_spec hsel
  cases hcls.symm.trans q1
  cases (State.methodFound?_of_named hnamed hy).symm.trans q2
  cases hnamed.symm.trans q3
  have hselP : selectMethod e.platform s.vm cellB.cls mk = .method mk := by rw [Launch.admits_selectMethod X.admits]; exact q4
  obtain ⟨vm₁, X₁, hstep₁⟩ := X.invokevirtual hexec hown hlink hnamed hmethM hstM hkP hkPi hy (a := b) (cell := cellB) hcell
    (fun z h => by rw [h] at hobj; cases hobj) hselP hmethM habM hkP hkPi (g := g) hg (argsL := argsL) (rest := rest) (hlen _ hsigM) hstack hdg
  rcases hK m meth c ⟨T.setVm vm₁, locs, cells, slots⟩ { g with stack := rest } (.invokevirtual index) mk (Value.ref b :: argsL).toArray X₁ hg hsize hdg hW (X₁.named hnamed) (hpre vm₁ X₁.warmed) with ⟨v, B, X', hpost, hsteps⟩ | ⟨q, B, X', hpost, hsteps⟩
  · exact Or.inl ⟨v, vm₁, B, X₁.warmed, X', hpost, fun target h => hstep₁ _ fun acts => by rw [doInvoke_state]; exact hsteps.trans h⟩
  · exact Or.inr ⟨q, vm₁, B, X₁.warmed, X', hpost, hstep₁ _ fun acts => by rw [doInvoke_state]; exact hsteps⟩
theorem vx_callS (X : Stand p l e R s m args below meth c T locs cells slots) (hexec : p.tables.exec = Jvm.exec) {own : String} {index : Nat} {y : MethodName} {bytes : ByteArray} {maxL : Nat} {ret : Option FieldType}
    (hown : s.vm.findClass own = some m.cls) (hlink : (Cond.methodLink own index y).before args s = true) (hstat : (Cond.static y).before args s = true) (hinit : (Cond.initialized y.cls).before args s = true)
    (hcode : (Cond.code y bytes maxL ret).before args s = true) (hy : y.cls ≠ "java/lang/invoke/MethodHandle" ∧ y.cls ≠ "java/lang/invoke/VarHandle")
    {W9 : Nat} {Pre : Pt → Array Value → Prop} {Post : Pt → Array Value → Option Value → Pt → Prop} {PostX : Pt → Array Value → Addr → Pt → Prop} (hK : vx_Back l R p e below s args y 3 W9 Pre Post PostX)
    {g : JFrame} (hg : g.method = m) (hsize : g.locals.size = c.maxLocals) {argsL rest : List Value} (hlen : ∀ sig, parseMethodDescriptor y.desc = some sig → argsL.length = sig.parameters.length)
    (hstack : g.stack = argsL.reverse ++ rest) (hW : 2 * g.monitorRoom + (rest.map fun v => v.category).sum ≤ W9) (hdg : decode c.code g.pc = .ok (.invokestatic index, 3))
    (hpre : ∀ vm₁, s.WarmedH vm₁ → Pre ⟨T.setVm vm₁, locs, cells, slots⟩ argsL.toArray) :
    (∃ (v : Option Value) (vm₁ : Vm) (B : Pt), s.WarmedH vm₁ ∧ Stand p l e R s m args below meth c B.U B.locs B.cells B.slots ∧ Post ⟨T.setVm vm₁, locs, cells, slots⟩ argsL.toArray v B ∧
      ∀ target, Steps p.tables e below (B.U.setTop { g with pc := g.pc + 3, stack := v.toList ++ rest }) target → Steps p.tables e below (T.setTop g) target) ∨
    (∃ (q : Addr) (vm₁ : Vm) (B : Pt), s.WarmedH vm₁ ∧ Stand p l e R s m args below meth c B.U B.locs B.cells B.slots ∧ PostX ⟨T.setVm vm₁, locs, cells, slots⟩ argsL.toArray q B ∧
      Steps p.tables e below (T.setTop g) ((B.U.setTop { g with stack := rest }).pushFrame (.throwing q))) := by
  obtain ⟨mk, hnamed⟩ := Cond.code_named hcode
  obtain ⟨methM, cM, hmethM, -, -, -, -, -, -, hsigM⟩ := Cond.code_spec hnamed hcode
  have hstatic : methM.isStatic = true := Cond.static_spec hnamed hmethM hstat
  obtain ⟨kP, hkP, -⟩ := className_of_methodNamed hnamed
  have hinitP : kP.init = .initialized := Cond.initialized_spec (findClass_of_methodNamed hnamed) hkP hinit
  obtain ⟨vm₁, X₁, hstep₁⟩ := X.invokestatic hexec hown hlink hnamed hmethM hstatic hkP hinitP hy (g := g) hg (argsL := argsL) (rest := rest) (hlen _ hsigM) hstack hdg
  rcases hK m meth c ⟨T.setVm vm₁, locs, cells, slots⟩ { g with stack := rest } (.invokestatic index) mk argsL.toArray X₁ hg hsize hdg hW (X₁.named hnamed) (hpre vm₁ X₁.warmed) with ⟨v, B, X', hpost, hsteps⟩ | ⟨q, B, X', hpost, hsteps⟩
  · exact Or.inl ⟨v, vm₁, B, X₁.warmed, X', hpost, fun target h => hstep₁ _ fun acts => by rw [doInvoke_state]; exact hsteps.trans h⟩
  · exact Or.inr ⟨q, vm₁, B, X₁.warmed, X', hpost, hstep₁ _ fun acts => by rw [doInvoke_state]; exact hsteps⟩
end Calls
theorem vx_cls {s : State} {T : State} {vm₁ : Vm} {E : String} {k : ClassId} (hW : s.WarmedH vm₁) (h : (T.setVm vm₁).vm.findClass E = some k) : s.vm.findClass E = some k := by
  have h1 : vm₁.findClass E = some k := h
  rw [hW.alike.findClass] at h1
  exact h1
/-- the method's frame g, with q thrown over it -/
def vx_W (p : Program) (l : Launch) (e : Env) (R : Room) (s : State) (m : MethodId) (args : Array Value) (below : List Frame) (meth : Method) (c : Code) (H : Heap) (locs : List Loc) (cells slots : Nat) (Q : State → Prop) (g : JFrame) (q : Addr) : Prop :=
  ∀ T : State, T.heap = H → Stand p l e R s m args below meth c T locs cells slots → ∃ t, Steps p.tables e below ((T.setTop g).pushFrame (.throwing q)) t ∧ Q t
def vx_Run (p : Program) (l : Launch) (e : Env) (R : Room) (s : State) (m : MethodId) (args : Array Value) (below : List Frame) (meth : Method) (c : Code) (H : Heap) (locs : List Loc) (cells slots mc ms : Nat) (g : JFrame) (rest : List Value) (Qa : State → Outcome → State → Prop) (XC : String → State → State → Prop) (free : Addr → Prop) : Prop :=
  ∀ T : State, T.heap = H → Stand p l e R s m args below meth c T locs cells slots →
    (∃ (v : Option Value) (st₀ t T' : State) (L : List Loc), st₀.heap = H ∧ Stand p l e R s m args below meth c T' (locs ++ L) (cells + mc) (slots + ms) ∧ (∀ q ∈ L, free q.base) ∧ T'.heap = t.heap ∧ T'.vm = t.vm ∧ Qa st₀ (.returned v) t ∧
      Goes p e below T g T' { g with pc := g.pc + 3, stack := v.toList ++ rest }) ∨
    (∃ (q : Addr) (st₀ t T' : State) (L : List Loc) (E : String) (ce : Cell), st₀.heap = H ∧ Stand p l e R s m args below meth c T' (locs ++ L) (cells + mc) (slots + ms) ∧ (∀ z ∈ L, free z.base) ∧ T'.heap = t.heap ∧ T'.vm = t.vm ∧ XC E st₀ t ∧ t.heap[q]? = some ce ∧ ce.vm = .none ∧ s.vm.findClass E = some ce.cls ∧
      Steps p.tables e below (T.setTop g) ((T'.setTop { g with stack := rest }).pushFrame (.throwing q)))
def vx_X {S : Type} (px : S → Prop) (B : String → S → State → Prop) (A : Nat → Prop) : String → State → State → Prop := fun E st t => ∃ u : S, px u ∧ B E u t ∧ va_F A st t
section Runs
variable {p : Program} {l : Launch} {e : Env} {R : Room} {s : State} {m : MethodId} {args : Array Value} {below : List Frame} {meth : Method} {c : Code} {H : Heap} {locs : List Loc} {cells slots : Nat}
variable {y : MethodName} {bytes cc : ByteArray} {maxL nL mc ms n index : Nat} {ret : Option FieldType} {ws : List Cond} {rm : Room} {Pc : Array Value → State → Prop} {Qc : Array Value → State → Outcome → State → Prop} {XC : String → State → State → Prop} {free : Addr → Prop} {Ts : List Cond} {own C : String} {b : Addr} {As rest : List Value} {g : JFrame}
theorem vx_callBack (cb : CallB R s args own index y bytes maxL ret ws rm mc ms n) (hM : vx_Met l y ws rm Pc Qc XC mc ms free) (hbl : FrameBlind Pc) : vx_Back l R p e below s args y 3 8 (PreOf R mc ms Pc) (PostOf Qc mc ms free) (vx_Post XC mc ms free) := by
  obtain ⟨hrc, hrs, hfr, hlo, hws, hcw, -, hini, -⟩ := cb
  exact vx_back (bytes := bytes) (maxL := maxL) (ret := ret) hM hbl hrc hrs hfr hlo hws hcw (fun a' U hW => word_at hW (Or.inl (by first | rfl | simp [Cond.onTables, Cond.keeps, Cond.steady])) hini)
theorem vx_runV (S : CallFix p m c cc nL s args Ts own) (hM : vx_Met l y ws rm Pc Qc XC mc ms free) (cw : CallW R s args own C index y bytes maxL ret ws rm mc ms n) (hp : PreV s H C b Pc As)
    (hg : g.method = m) (hn : As.length = n) (hsize : g.locals.size = nL) (hstack : g.stack = As.reverse ++ .ref b :: rest) (hW : 2 * g.monitorRoom + (rest.map fun v => v.category).sum ≤ 8) (hdg : decode cc g.pc = .ok (.invokevirtual index, 3)) (hf : cells + mc ≤ R.cells ∧ slots + ms ≤ R.slots) :
    vx_Run p l e R s m args below meth c H locs cells slots mc ms g rest (Qc (Value.ref b :: As).toArray) XC free := by
  have hK : vx_Back l R p e below s args y 3 8 (PreOf R mc ms Pc) (PostOf Qc mc ms free) (vx_Post XC mc ms free) := vx_callBack cw.1 hM hp.1
  obtain ⟨⟨-, -, -, -, -, -, hcode, -, hy, hlen, hl⟩, hin, hse⟩ := cw
  obtain ⟨hx, hb, hml, ho, -⟩ := S
  obtain ⟨-, ⟨cellB, hcB, hoB, hclB⟩, hPc⟩ := hp
  intro T hT X
  rcases vx_callV X hx (C := C) (bytes := bytes) (maxL := maxL) (ret := ret) ho hl hin hse hcode hy hK (by rw [hT]; exact hcB) hoB hclB hg (hsize.trans hml.symm) (argsL := As) (rest := rest) (fun sig h => hn.trans (hlen sig h)) hstack hW (by rw [hb]; exact hdg)
    (fun vm₁ hW₁ => ⟨hf.1, hf.2, hPc (T.setVm vm₁) hT hW₁⟩) with ⟨v, vm₁, ⟨U', l2, c2, s2⟩, hW₁, X', ⟨g', mk, t, L, e1, e2, hq, h1, hL, h2, h3⟩, st⟩ | ⟨q, vm₁, ⟨U', l2, c2, s2⟩, hW₁, X', ⟨g', mk, t, L, E, ce, e1, e2, hq, hce, hcv, hcl, h1, hL, h2, h3⟩, st⟩
  · dsimp only [Pt.U, Pt.locs, Pt.cells, Pt.slots] at X' e1 e2 h1 h2 h3 st
    subst h1; subst h2; subst h3
    exact Or.inl ⟨v, (T.setVm vm₁).calling g' mk (Value.ref b :: As).toArray, t, U', L, hT, X', hL, e1, e2, hq, st⟩
  · dsimp only [Pt.U, Pt.locs, Pt.cells, Pt.slots] at X' e1 e2 h1 h2 h3 st hcl
    subst h1; subst h2; subst h3
    exact Or.inr ⟨q, (T.setVm vm₁).calling g' mk (Value.ref b :: As).toArray, t, U', L, E, ce, hT, X', hL, e1, e2, hq, hce, hcv, vx_cls hW₁ hcl, st⟩
theorem vx_runS (S : CallFix p m c cc nL s args Ts own) (hM : vx_Met l y ws rm Pc Qc XC mc ms free) (cw : CallB R s args own index y bytes maxL ret ws rm mc ms n ∧ (Cond.static y).before args s = true) (hp : PreS s H Pc As)
    (hg : g.method = m) (hn : As.length = n) (hsize : g.locals.size = nL) (hstack : g.stack = As.reverse ++ rest) (hW : 2 * g.monitorRoom + (rest.map fun v => v.category).sum ≤ 8) (hdg : decode cc g.pc = .ok (.invokestatic index, 3)) (hf : cells + mc ≤ R.cells ∧ slots + ms ≤ R.slots) :
    vx_Run p l e R s m args below meth c H locs cells slots mc ms g rest (Qc As.toArray) XC free := by
  have hK : vx_Back l R p e below s args y 3 8 (PreOf R mc ms Pc) (PostOf Qc mc ms free) (vx_Post XC mc ms free) := vx_callBack cw.1 hM hp.1
  obtain ⟨⟨-, -, -, -, -, -, hcode, hini, hy, hlen, hl⟩, hstt⟩ := cw
  obtain ⟨hx, hb, hml, ho, -⟩ := S
  intro T hT X
  rcases vx_callS X hx (bytes := bytes) (maxL := maxL) (ret := ret) ho hl hstt hini hcode hy hK hg (hsize.trans hml.symm) (argsL := As) (rest := rest) (fun sig h => hn.trans (hlen sig h)) hstack hW (by rw [hb]; exact hdg)
    (fun vm₁ hW₁ => ⟨hf.1, hf.2, hp.2 (T.setVm vm₁) hT hW₁⟩) with ⟨v, vm₁, ⟨U', l2, c2, s2⟩, hW₁, X', ⟨g', mk, t, L, e1, e2, hq, h1, hL, h2, h3⟩, st⟩ | ⟨q, vm₁, ⟨U', l2, c2, s2⟩, hW₁, X', ⟨g', mk, t, L, E, ce, e1, e2, hq, hce, hcv, hcl, h1, hL, h2, h3⟩, st⟩
  · dsimp only [Pt.U, Pt.locs, Pt.cells, Pt.slots] at X' e1 e2 h1 h2 h3 st
    subst h1; subst h2; subst h3
    exact Or.inl ⟨v, (T.setVm vm₁).calling g' mk As.toArray, t, U', L, hT, X', hL, e1, e2, hq, st⟩
  · dsimp only [Pt.U, Pt.locs, Pt.cells, Pt.slots] at X' e1 e2 h1 h2 h3 st hcl
    subst h1; subst h2; subst h3
    exact Or.inr ⟨q, (T.setVm vm₁).calling g' mk As.toArray, t, U', L, E, ce, hT, X', hL, e1, e2, hq, hce, hcv, vx_cls hW₁ hcl, st⟩
end Runs
section Rows
variable {p : Program} {l : Launch} {e : Env} {R : Room} {s : State} {m : MethodId} {args : Array Value} {below : List Frame} {meth : Method} {c : Code} {H : Heap} {locs : List Loc} {cells slots : Nat} {Q : State → Prop}
variable {mc ms : Nat} {free : Addr → Prop} {A0 A1 : Nat → Prop} {H0 : Heap} {a : Array Value} {pc : Nat} {ls : Array Slot} {st0 rest : List Value}
theorem vx_keep {st₀ t T' : State} {L : List Loc} (h0 : st₀.heap = H) (e1 : T'.heap = t.heap) (hS : va_S A0 H0 H locs) (hA : ∀ q, q < H.size → A1 q → A0 q) (hf : ∀ q, free q → A0 q) (hL : ∀ q ∈ L, free q.base) (hF : va_F A1 st₀ t) :
    H.size ≤ T'.heap.size ∧ (∀ q : Nat, q < H.size → ¬ A1 q → T'.heap[q]? = H[q]?) ∧ va_S A0 H0 T'.heap (locs ++ L) := by
  obtain ⟨hz, hk⟩ := hF
  rw [h0] at hz hk
  exact ⟨by rw [e1]; exact hz, fun q h1 h2 => by rw [e1]; exact hk q h1 h2,
    ⟨Nat.le_trans hS.1 (by rw [e1]; exact hz), fun q h1 h2 => by rw [e1, hk q (Nat.lt_of_lt_of_le h1 hS.1) (fun z => h2 (hA q (Nat.lt_of_lt_of_le h1 hS.1) z))]; exact hS.2.1 q h1 h2, fun q hq => by
      rcases List.mem_append.mp hq with h | h
      · exact hS.2.2 q h
      · exact hf _ (hL q h)⟩⟩
theorem vx_calli {S SX : Type} {post : Int32 → S → Prop} {px : SX → Prop} {B : S → State → Prop} {BX : String → SX → State → Prop} {AX : Nat → Prop} (hr : vx_Run p l e R s m args below meth c H locs cells slots mc ms (F0 m pc ls st0) rest (va_Qi post B A1 a) (vx_X px BX AX) free) (hS : va_S A0 H0 H locs) (hA : ∀ q, q < H.size → A1 q → A0 q) (hf : ∀ q, free q → A0 q) (hAX : ∀ q, q < H.size → AX q → A0 q)
    (kx : ∀ (E : String) (ce : Cell) (q9 : Addr) (u : SX) (t : State) (H1 : Heap) (locs1 : List Loc), t.heap = H1 → s.vm.Alike t.vm → px u → BX E u t → H.size ≤ H1.size → (∀ q : Nat, q < H.size → ¬ AX q → H1[q]? = H[q]?) → va_S A0 H0 H1 locs1 → H1[q9]? = some ce → ce.vm = .none → s.vm.findClass E = some ce.cls → vx_W p l e R s m args below meth c H1 locs1 (cells + mc) (slots + ms) Q (F0 m pc ls rest) q9)
    (kk : ∀ (r : Int32) (u : S) (t : State) (H1 : Heap) (locs1 : List Loc), t.heap = H1 → s.vm.Alike t.vm → post r u → B u t → H.size ≤ H1.size → (∀ q : Nat, q < H.size → ¬ A1 q → H1[q]? = H[q]?) → va_S A0 H0 H1 locs1 → W p l e R s m args below meth c H1 locs1 (cells + mc) (slots + ms) Q (F0 m (pc + 3) ls (.int r :: rest))) : W p l e R s m args below meth c H locs cells slots Q (F0 m pc ls st0) := by
  intro T hT X
  rcases hr T hT X with ⟨v, st₀, t, T', L, h0, X', hL, e1, e2, ⟨⟨r, u, hv, hp, hb⟩, hF⟩, st⟩ | ⟨q, st₀, t, T', L, E, ce, h0, X', hL, e1, e2, ⟨u, hp, hb, hF⟩, hce, hcv, hcl, st⟩
  · cases hv
    obtain ⟨k1, k2, k3⟩ := vx_keep h0 e1 hS hA hf hL hF
    obtain ⟨t2, a1, b1⟩ := kk r u t T'.heap (locs ++ L) e1.symm (by rw [← e2]; exact X'.warmed.alike) hp hb k1 k2 k3 T' rfl X'
    exact ⟨t2, st t2 a1, b1⟩
  · obtain ⟨k1, k2, k3⟩ := vx_keep h0 e1 hS hAX hf hL hF
    obtain ⟨t2, a1, b1⟩ := kx E ce q u t T'.heap (locs ++ L) e1.symm (by rw [← e2]; exact X'.warmed.alike) hp hb k1 k2 k3 (by rw [e1]; exact hce) hcv hcl T' rfl X'
    exact ⟨t2, st.trans a1, b1⟩
theorem vx_calll {S SX : Type} {post : Int64 → S → Prop} {px : SX → Prop} {B : S → State → Prop} {BX : String → SX → State → Prop} {AX : Nat → Prop} (hr : vx_Run p l e R s m args below meth c H locs cells slots mc ms (F0 m pc ls st0) rest (va_Ql post B A1 a) (vx_X px BX AX) free) (hS : va_S A0 H0 H locs) (hA : ∀ q, q < H.size → A1 q → A0 q) (hf : ∀ q, free q → A0 q) (hAX : ∀ q, q < H.size → AX q → A0 q)
    (kx : ∀ (E : String) (ce : Cell) (q9 : Addr) (u : SX) (t : State) (H1 : Heap) (locs1 : List Loc), t.heap = H1 → s.vm.Alike t.vm → px u → BX E u t → H.size ≤ H1.size → (∀ q : Nat, q < H.size → ¬ AX q → H1[q]? = H[q]?) → va_S A0 H0 H1 locs1 → H1[q9]? = some ce → ce.vm = .none → s.vm.findClass E = some ce.cls → vx_W p l e R s m args below meth c H1 locs1 (cells + mc) (slots + ms) Q (F0 m pc ls rest) q9)
    (kk : ∀ (r : Int64) (u : S) (t : State) (H1 : Heap) (locs1 : List Loc), t.heap = H1 → s.vm.Alike t.vm → post r u → B u t → H.size ≤ H1.size → (∀ q : Nat, q < H.size → ¬ A1 q → H1[q]? = H[q]?) → va_S A0 H0 H1 locs1 → W p l e R s m args below meth c H1 locs1 (cells + mc) (slots + ms) Q (F0 m (pc + 3) ls (.long r :: rest))) : W p l e R s m args below meth c H locs cells slots Q (F0 m pc ls st0) := by
  intro T hT X
  rcases hr T hT X with ⟨v, st₀, t, T', L, h0, X', hL, e1, e2, ⟨⟨r, u, hv, hp, hb⟩, hF⟩, st⟩ | ⟨q, st₀, t, T', L, E, ce, h0, X', hL, e1, e2, ⟨u, hp, hb, hF⟩, hce, hcv, hcl, st⟩
  · cases hv
    obtain ⟨k1, k2, k3⟩ := vx_keep h0 e1 hS hA hf hL hF
    obtain ⟨t2, a1, b1⟩ := kk r u t T'.heap (locs ++ L) e1.symm (by rw [← e2]; exact X'.warmed.alike) hp hb k1 k2 k3 T' rfl X'
    exact ⟨t2, st t2 a1, b1⟩
  · obtain ⟨k1, k2, k3⟩ := vx_keep h0 e1 hS hAX hf hL hF
    obtain ⟨t2, a1, b1⟩ := kx E ce q u t T'.heap (locs ++ L) e1.symm (by rw [← e2]; exact X'.warmed.alike) hp hb k1 k2 k3 (by rw [e1]; exact hce) hcv hcl T' rfl X'
    exact ⟨t2, st.trans a1, b1⟩
theorem vx_callf {S SX : Type} {post : UInt32 → S → Prop} {px : SX → Prop} {B : S → State → Prop} {BX : String → SX → State → Prop} {AX : Nat → Prop} (hr : vx_Run p l e R s m args below meth c H locs cells slots mc ms (F0 m pc ls st0) rest (va_Qf post B A1 a) (vx_X px BX AX) free) (hS : va_S A0 H0 H locs) (hA : ∀ q, q < H.size → A1 q → A0 q) (hf : ∀ q, free q → A0 q) (hAX : ∀ q, q < H.size → AX q → A0 q)
    (kx : ∀ (E : String) (ce : Cell) (q9 : Addr) (u : SX) (t : State) (H1 : Heap) (locs1 : List Loc), t.heap = H1 → s.vm.Alike t.vm → px u → BX E u t → H.size ≤ H1.size → (∀ q : Nat, q < H.size → ¬ AX q → H1[q]? = H[q]?) → va_S A0 H0 H1 locs1 → H1[q9]? = some ce → ce.vm = .none → s.vm.findClass E = some ce.cls → vx_W p l e R s m args below meth c H1 locs1 (cells + mc) (slots + ms) Q (F0 m pc ls rest) q9)
    (kk : ∀ (r : UInt32) (u : S) (t : State) (H1 : Heap) (locs1 : List Loc), t.heap = H1 → s.vm.Alike t.vm → post r u → B u t → H.size ≤ H1.size → (∀ q : Nat, q < H.size → ¬ A1 q → H1[q]? = H[q]?) → va_S A0 H0 H1 locs1 → W p l e R s m args below meth c H1 locs1 (cells + mc) (slots + ms) Q (F0 m (pc + 3) ls (.float r :: rest))) : W p l e R s m args below meth c H locs cells slots Q (F0 m pc ls st0) := by
  intro T hT X
  rcases hr T hT X with ⟨v, st₀, t, T', L, h0, X', hL, e1, e2, ⟨⟨r, u, hv, hp, hb⟩, hF⟩, st⟩ | ⟨q, st₀, t, T', L, E, ce, h0, X', hL, e1, e2, ⟨u, hp, hb, hF⟩, hce, hcv, hcl, st⟩
  · cases hv
    obtain ⟨k1, k2, k3⟩ := vx_keep h0 e1 hS hA hf hL hF
    obtain ⟨t2, a1, b1⟩ := kk r u t T'.heap (locs ++ L) e1.symm (by rw [← e2]; exact X'.warmed.alike) hp hb k1 k2 k3 T' rfl X'
    exact ⟨t2, st t2 a1, b1⟩
  · obtain ⟨k1, k2, k3⟩ := vx_keep h0 e1 hS hAX hf hL hF
    obtain ⟨t2, a1, b1⟩ := kx E ce q u t T'.heap (locs ++ L) e1.symm (by rw [← e2]; exact X'.warmed.alike) hp hb k1 k2 k3 (by rw [e1]; exact hce) hcv hcl T' rfl X'
    exact ⟨t2, st.trans a1, b1⟩
theorem vx_calld {S SX : Type} {post : UInt64 → S → Prop} {px : SX → Prop} {B : S → State → Prop} {BX : String → SX → State → Prop} {AX : Nat → Prop} (hr : vx_Run p l e R s m args below meth c H locs cells slots mc ms (F0 m pc ls st0) rest (va_Qd post B A1 a) (vx_X px BX AX) free) (hS : va_S A0 H0 H locs) (hA : ∀ q, q < H.size → A1 q → A0 q) (hf : ∀ q, free q → A0 q) (hAX : ∀ q, q < H.size → AX q → A0 q)
    (kx : ∀ (E : String) (ce : Cell) (q9 : Addr) (u : SX) (t : State) (H1 : Heap) (locs1 : List Loc), t.heap = H1 → s.vm.Alike t.vm → px u → BX E u t → H.size ≤ H1.size → (∀ q : Nat, q < H.size → ¬ AX q → H1[q]? = H[q]?) → va_S A0 H0 H1 locs1 → H1[q9]? = some ce → ce.vm = .none → s.vm.findClass E = some ce.cls → vx_W p l e R s m args below meth c H1 locs1 (cells + mc) (slots + ms) Q (F0 m pc ls rest) q9)
    (kk : ∀ (r : UInt64) (u : S) (t : State) (H1 : Heap) (locs1 : List Loc), t.heap = H1 → s.vm.Alike t.vm → post r u → B u t → H.size ≤ H1.size → (∀ q : Nat, q < H.size → ¬ A1 q → H1[q]? = H[q]?) → va_S A0 H0 H1 locs1 → W p l e R s m args below meth c H1 locs1 (cells + mc) (slots + ms) Q (F0 m (pc + 3) ls (.double r :: rest))) : W p l e R s m args below meth c H locs cells slots Q (F0 m pc ls st0) := by
  intro T hT X
  rcases hr T hT X with ⟨v, st₀, t, T', L, h0, X', hL, e1, e2, ⟨⟨r, u, hv, hp, hb⟩, hF⟩, st⟩ | ⟨q, st₀, t, T', L, E, ce, h0, X', hL, e1, e2, ⟨u, hp, hb, hF⟩, hce, hcv, hcl, st⟩
  · cases hv
    obtain ⟨k1, k2, k3⟩ := vx_keep h0 e1 hS hA hf hL hF
    obtain ⟨t2, a1, b1⟩ := kk r u t T'.heap (locs ++ L) e1.symm (by rw [← e2]; exact X'.warmed.alike) hp hb k1 k2 k3 T' rfl X'
    exact ⟨t2, st t2 a1, b1⟩
  · obtain ⟨k1, k2, k3⟩ := vx_keep h0 e1 hS hAX hf hL hF
    obtain ⟨t2, a1, b1⟩ := kx E ce q u t T'.heap (locs ++ L) e1.symm (by rw [← e2]; exact X'.warmed.alike) hp hb k1 k2 k3 (by rw [e1]; exact hce) hcv hcl T' rfl X'
    exact ⟨t2, st.trans a1, b1⟩
theorem vx_callv {S SX : Type} {post : S → Prop} {px : SX → Prop} {B : S → State → Prop} {BX : String → SX → State → Prop} {AX : Nat → Prop} (hr : vx_Run p l e R s m args below meth c H locs cells slots mc ms (F0 m pc ls st0) rest (va_Qv post B A1 a) (vx_X px BX AX) free) (hS : va_S A0 H0 H locs) (hA : ∀ q, q < H.size → A1 q → A0 q) (hf : ∀ q, free q → A0 q) (hAX : ∀ q, q < H.size → AX q → A0 q)
    (kx : ∀ (E : String) (ce : Cell) (q9 : Addr) (u : SX) (t : State) (H1 : Heap) (locs1 : List Loc), t.heap = H1 → s.vm.Alike t.vm → px u → BX E u t → H.size ≤ H1.size → (∀ q : Nat, q < H.size → ¬ AX q → H1[q]? = H[q]?) → va_S A0 H0 H1 locs1 → H1[q9]? = some ce → ce.vm = .none → s.vm.findClass E = some ce.cls → vx_W p l e R s m args below meth c H1 locs1 (cells + mc) (slots + ms) Q (F0 m pc ls rest) q9)
    (kk : ∀ (u : S) (t : State) (H1 : Heap) (locs1 : List Loc), t.heap = H1 → s.vm.Alike t.vm → post u → B u t → H.size ≤ H1.size → (∀ q : Nat, q < H.size → ¬ A1 q → H1[q]? = H[q]?) → va_S A0 H0 H1 locs1 → W p l e R s m args below meth c H1 locs1 (cells + mc) (slots + ms) Q (F0 m (pc + 3) ls (rest))) : W p l e R s m args below meth c H locs cells slots Q (F0 m pc ls st0) := by
  intro T hT X
  rcases hr T hT X with ⟨v, st₀, t, T', L, h0, X', hL, e1, e2, ⟨⟨u, hv, hp, hb⟩, hF⟩, st⟩ | ⟨q, st₀, t, T', L, E, ce, h0, X', hL, e1, e2, ⟨u, hp, hb, hF⟩, hce, hcv, hcl, st⟩
  · cases hv
    obtain ⟨k1, k2, k3⟩ := vx_keep h0 e1 hS hA hf hL hF
    obtain ⟨t2, a1, b1⟩ := kk u t T'.heap (locs ++ L) e1.symm (by rw [← e2]; exact X'.warmed.alike) hp hb k1 k2 k3 T' rfl X'
    exact ⟨t2, st t2 a1, b1⟩
  · obtain ⟨k1, k2, k3⟩ := vx_keep h0 e1 hS hAX hf hL hF
    obtain ⟨t2, a1, b1⟩ := kx E ce q u t T'.heap (locs ++ L) e1.symm (by rw [← e2]; exact X'.warmed.alike) hp hb k1 k2 k3 (by rw [e1]; exact hce) hcv hcl T' rfl X'
    exact ⟨t2, st.trans a1, b1⟩
/-- caught by the row x of this method's table; the rows ahead don't take it -/
theorem vx_catch {own name : String} {E : String} {ce : Cell} {q : Addr} (hown : s.vm.findClass own = some m.cls) (pre : List ExceptionTableEntry) (x : ExceptionTableEntry) (suf : List ExceptionTableEntry) (hsplit : c.exceptionTable.toList = pre ++ x :: suf)
    (hpass : ∀ z ∈ pre, covers z pc = false ∨ (z.catchType ≠ 0 ∧ ∃ nm : String, (Cond.classLink own z.catchType nm).before args s = true ∧ va_Nc E nm s)) (hx : covers x pc = true) (h0 : x.catchType ≠ 0)
    (hlink : (Cond.classLink own x.catchType name).before args s = true) (hcast : (Cond.castable E name).before args s = true) (hcell : H[q]? = some ce) (hv : ce.vm = .none) (hcl : s.vm.findClass E = some ce.cls)
    (kk : W p l e R s m args below meth c H locs cells slots Q (F0 m x.handlerPc ls [.ref q])) : vx_W p l e R s m args below meth c H locs cells slots Q (F0 m pc ls rest) q := by
  intro T hT X
  have hpl : e.platform.magicAccessors = ({} : Platform).magicAccessors := by rw [X.admits.platform]
  obtain ⟨c3, c4, hc3, hc4, hasg⟩ := Cond.castable_spec hcast
  cases Option.some.inj (hc3.symm.trans hcl)
  obtain ⟨c5, hc5, hcl5⟩ := Cond.classLink_spec hown hlink e.platform hpl
  cases Option.some.inj (hc4.symm.trans hc5)
  obtain ⟨vm', X', st⟩ := X.thenCaughtThrough q (g := F0 m pc ls rest) rfl (Steps.refl _) (by rw [hT]; exact hcell) (by rw [hv]; rfl) (by obtain ⟨k9, h9, -⟩ := Vm.findClass_spec hcl; exact ⟨k9, h9⟩) pre x suf hsplit
    (fun z hz => by
      rcases hpass z hz with h | ⟨hz0, nm, hl1, hn1⟩
      · exact Or.inl h
      · obtain ⟨c6, hc6, hcl6⟩ := Cond.classLink_spec hown hl1 e.platform hpl
        obtain ⟨a8, b8, h1, h2, h3⟩ := hn1
        cases Option.some.inj (h1.symm.trans hcl)
        cases Option.some.inj (h2.symm.trans hc6)
        exact Or.inr ⟨hz0, _, hcl6, h3⟩) hx (Or.inr ⟨h0, c4, hcl5, hasg⟩)
  obtain ⟨t, a1, b1⟩ := kk (T.setVm vm') hT X'
  exact ⟨t, st.trans a1, b1⟩
end Rows
section Ends
variable {p : Program} {l : Launch} {e : Env} {R : Room} {s : State} {m : MethodId} {args : Array Value} {below : List Frame} {meth : Method} {c : Code} {H : Heap} {locs : List Loc} {cells slots : Nat} {Q : State → Prop}
variable {mc ms : Nat} {free : Addr → Prop} {A0 A1 : Nat → Prop} {H0 : Heap} {a : Array Value} {ls : Array Slot} {st0 rest : List Value}
variable {Qc : Array Value → State → Outcome → State → Prop} {XC : String → State → State → Prop}
/-- what a body that may throw owes at its end -/
def vx_MQ (below : List Frame) (Qc : Array Value → State → Outcome → State → Prop) (XC : String → State → State → Prop) (a : Array Value) (s : State) (mc ms : Nat) (free : Addr → Prop) : State → Prop := fun t =>
  ∃ o, t.status = .running ∧ Ended t below o ∧ vx_Q Qc XC mc ms free a s o t
theorem vx_ret {g : JFrame} {mc ms : Nat} (k : W p l e R s m args below meth c H locs cells slots (MQ below Qc args s mc ms free) g) : W p l e R s m args below meth c H locs cells slots (vx_MQ below Qc XC args s mc ms free) g := by
  intro T hT X
  obtain ⟨t, a1, o, b1, b2, b3, b4⟩ := k T hT X
  exact ⟨t, a1, o, b1, b2, Or.inl ⟨b3, b4⟩⟩
/-- not caught here: it goes on to the caller -/
theorem vx_widen {g : JFrame} {q : Addr} {k n : Nat} (h1 : cells ≤ k) (h2 : slots ≤ n) (kk : vx_W p l e R s m args below meth c H locs k n Q g q) : vx_W p l e R s m args below meth c H locs cells slots Q g q := fun T hT X => kk T hT (stand_widen X h1 h2)
theorem vx_out {pc : Nat} {E : String} {ce : Cell} {q : Addr} {mc ms : Nat} (hout : ∀ x ∈ c.exceptionTable.toList, covers x pc = false) (hlocks : meth.locks = false) (hcell : H[q]? = some ce) (hv : ce.vm = .none) (hcl : s.vm.findClass E = some ce.cls)
    (hx : ∀ t : State, t.heap = H → s.vm.Alike t.vm → XC E s t) (hf : ∀ z ∈ locs, free z.base) (hc : cells ≤ mc) (hs : slots ≤ ms) :
    vx_W p l e R s m args below meth c H locs cells slots (vx_MQ below Qc XC args s mc ms free) (F0 m pc ls rest) q := by
  intro T hT X
  obtain ⟨st1, hrun, hend, hW, hsm⟩ := X.leaveThrown q (g := F0 m pc ls rest) rfl rfl rfl hout hlocks
  have hcell9 : (T.setFrames (.throwing q :: below)).heap[q]? = some ce := by
    show T.heap[q]? = some ce
    rw [hT]; exact hcell
  exact ⟨_, st1, .threw q, hrun, hend, Or.inr ⟨q, rfl, E, ce, locs, hx _ hT hW.alike, hcell9, hv, hcl, hW, hsm.mono hc hs, hf⟩⟩
theorem vx_frame {U : State} {k n : Nat} (h : s.sameButNew ({ U with vm := s.vm } : State) locs k n) : s.heap.size ≤ U.heap.size ∧ ∀ q : Nat, q < s.heap.size → (∀ z ∈ locs, z.base ≠ q) → U.heap[q]? = s.heap[q]? := by
  obtain ⟨-, h2, -, -, -, h6⟩ := h
  refine ⟨h2, fun q hq hz => ?_⟩
  obtain ⟨c9, e1, e2, e3, e4⟩ := h6 q _ (Array.getElem?_eq_getElem hq)
  have hs : c9.slots = (s.heap[q]).slots := Array.ext_getElem? fun i => e4 i fun hm => hz _ hm rfl
  have h9 : c9 = s.heap[q] := by
    rw [hs] at e2
    exact e2
  have e5 : U.heap[q]? = some c9 := e1
  rw [e5, h9, Array.getElem?_eq_getElem hq]
/-- the words of a throw but the four that speak of the heap -/
def vx_no (w : Cond) : Bool := decide (w ≠ .isRef (.static Bundle.tN "UNASSIGNED_STACK" Bundle.steD)) && decide (w ≠ .isRef (.static Bundle.tN "SUPPRESSED_SENTINEL" Bundle.listD)) && decide (w ≠ .laysStatic Bundle.tN "UNASSIGNED_STACK" Bundle.steD) && decide (w ≠ .laysStatic Bundle.tN "SUPPRESSED_SENTINEL" Bundle.listD)
def vx_at0 (own : String) (ic : Nat) (X : String) (names : List String) : List Cond := (Bundle.ownAtoms0 own ic X names).filter vx_no
def vx_atS (own : String) (ic : Nat) (X : String) (names : List String) : List Cond := (Bundle.ownAtoms own ic X names).filter vx_no
/-- a word that the tables alone decide, or a good one -/
def vx_ot (w : Cond) : Bool := w.onTables || goodWord w
theorem vx_ot_at {args a' : Array Value} {s U : State} {w : Cond} (hW : s.WarmedH U.vm) (hvm : s.vm = U.vm) (hg : vx_ot w = true) (h : w.before args s = true) : w.before a' U = true := by
  simp only [vx_ot, Bool.or_eq_true] at hg
  rcases hg with hg | hg
  · exact va_tabs hg hvm h
  · exact word_at hW (good_of_word hg) h
/-- a list's words: the good ones out of the method's own list, the others by premises of their own -/
theorem vx_hat {args : Array Value} {s : State} {L B : List Cond} (h1 : ∀ w ∈ L.filter goodWord, w.before args s = true) (h2 : ∀ w ∈ L.filter (fun w => !goodWord w), w ∈ B) (h3 : ∀ w ∈ B, w.before args s = true) : ∀ w ∈ L, w.before args s = true := by
  intro w hw
  by_cases g : goodWord w = true
  · exact h1 w (List.mem_filter.mpr ⟨hw, g⟩)
  · refine h3 w (h2 w (List.mem_filter.mpr ⟨hw, ?_⟩))
    show (!goodWord w) = true
    cases hgw : goodWord w
    · rfl
    · exact absurd hgw g
theorem vx_c {args : Array Value} {s : State} {w : Cond} {B : List Cond} (h : w.before args s = true) (t : ∀ w ∈ B, w.before args s = true) : ∀ w' ∈ w :: B, w'.before args s = true := fun w' h' => (List.mem_cons.mp h').elim (fun e => by rw [e]; exact h) (t w')
theorem vx_n {args : Array Value} {s : State} : ∀ w ∈ ([] : List Cond), w.before args s = true := fun _ h => nomatch h
theorem vx_own {args : Array Value} {s : State} {L : List Cond} (h1 : ∀ w ∈ L.filter vx_no, w.before args s = true)
    (hU : (Cond.isRef (.static Bundle.tN "UNASSIGNED_STACK" Bundle.steD)).before args s = true) (hN : (Cond.isRef (.static Bundle.tN "SUPPRESSED_SENTINEL" Bundle.listD)).before args s = true)
    (lU : (Cond.laysStatic Bundle.tN "UNASSIGNED_STACK" Bundle.steD).before args s = true) (lN : (Cond.laysStatic Bundle.tN "SUPPRESSED_SENTINEL" Bundle.listD).before args s = true) : ∀ w ∈ L, w.before args s = true := by
  intro w hw
  by_cases e1 : w = .isRef (.static Bundle.tN "UNASSIGNED_STACK" Bundle.steD)
  · rw [e1]; exact hU
  · by_cases e2 : w = .isRef (.static Bundle.tN "SUPPRESSED_SENTINEL" Bundle.listD)
    · rw [e2]; exact hN
    · by_cases e3 : w = .laysStatic Bundle.tN "UNASSIGNED_STACK" Bundle.steD
      · rw [e3]; exact lU
      · by_cases e4 : w = .laysStatic Bundle.tN "SUPPRESSED_SENTINEL" Bundle.listD
        · rw [e4]; exact lN
        · exact h1 w (List.mem_filter.mpr ⟨hw, by unfold vx_no; rw [decide_eq_true e1, decide_eq_true e2, decide_eq_true e3, decide_eq_true e4]; rfl⟩)
/-- where a static field lies, its class's statics cell in H -/
def vx_L (C n d : String) (A : Nat → Prop) (U : State) (H : Heap) : Prop := ∃ (c : ClassId) (k : Class) (i : Nat) (f : Field) (a : Nat) (cell : Cell), U.vm.findClass C = some c ∧ U.fieldFound? C n d = some (c, k, i, f) ∧ f.isStatic = true ∧ k.statics = some a ∧ H[a]? = some cell ∧ cell.vm.isStatics = true ∧ cell.cls = c ∧ f.slot < cell.slots.size ∧ k.staticTypes[f.slot]? = some f.type ∧ ¬ A a
theorem vx_L.moved {C n d : String} {A : Nat → Prop} {u U : State} {H : Heap} (hvm : u.vm.Alike U.vm) (h : vx_L C n d A u H) : vx_L C n d A U H := by
  obtain ⟨c, k, i, f, a, cell, h1, h2, h3, h4, h5, h6, h7, h8, h9, h10⟩ := h
  obtain ⟨k', hi', he⟩ := State.fieldFound?_setVm hvm h2
  exact ⟨c, k', i, f, a, cell, by rw [hvm.findClass]; exact h1, hi', h3, by rw [he]; exact h4, h5, h6, h7, h8, by rw [he]; exact h9, h10⟩
theorem vx_L.kept {C n d : String} {A : Nat → Prop} {U : State} {H H1 : Heap} (h : vx_L C n d A U H) (hq : ∀ a : Nat, a < H.size → ¬ A a → H1[a]? = H[a]?) : vx_L C n d A U H1 := by
  obtain ⟨c, k, i, f, a, cell, h1, h2, h3, h4, h5, h6, h7, h8, h9, h10⟩ := h
  exact ⟨c, k, i, f, a, cell, h1, h2, h3, h4, by rw [hq a (Array.getElem?_eq_some_iff.mp h5).1 h10]; exact h5, h6, h7, h8, h9, h10⟩
theorem vx_L.narrow {C n d : String} {A B : Nat → Prop} {U : State} {H : Heap} (h : vx_L C n d A U H) (hAB : ∀ q, B q → A q) : vx_L C n d B U H := by
  obtain ⟨c, k, i, f, a, cell, h1, h2, h3, h4, h5, h6, h7, h8, h9, h10⟩ := h
  exact ⟨c, k, i, f, a, cell, h1, h2, h3, h4, h5, h6, h7, h8, h9, fun z => h10 (hAB _ z)⟩
theorem vx_L.word {C n d : String} {A : Nat → Prop} {s : State} {args : Array Value} (h : vx_L C n d A s s.heap) : (Cond.laysStatic C n d).before args s = true := by
  obtain ⟨c, k, i, f, a, cell, h1, h2, h3, h4, h5, h6, h7, h8, h9, -⟩ := h
  show (Cond.laysStatic C n d).holds args s none s [] = true
  exact Cond.laysStatic_of h1 h2 h3 h4 h5 h6 h7 h8 h9
/-- .. and what it holds: null or some reference -/
def vx_Zq (C n d : String) (A : Nat → Prop) (U : State) (H : Heap) : Prop := va_Zq C n d A U H ∧ vx_L C n d A U H
theorem vx_Zq.moved {C n d : String} {A : Nat → Prop} {u U : State} {H : Heap} (hvm : u.vm.Alike U.vm) (h : vx_Zq C n d A u H) : vx_Zq C n d A U H := ⟨va_Zq.moved hvm h.1, vx_L.moved hvm h.2⟩
theorem vx_Zq.kept {C n d : String} {A : Nat → Prop} {U : State} {H H1 : Heap} (h : vx_Zq C n d A U H) (hq : ∀ a : Nat, a < H.size → ¬ A a → H1[a]? = H[a]?) : vx_Zq C n d A U H1 := ⟨va_Zq.kept h.1 hq, vx_L.kept h.2 hq⟩
theorem vx_Zq.narrow {C n d : String} {A B : Nat → Prop} {U : State} {H : Heap} (h : vx_Zq C n d A U H) (hAB : ∀ q, B q → A q) : vx_Zq C n d B U H := ⟨va_Zq.narrow h.1 hAB, vx_L.narrow h.2 hAB⟩
theorem vx_Zqof {args : Array Value} {s : State} {C n d : String} {A : Nat → Prop} (hl : (Cond.laysStatic C n d).before args s = true) (hini : (Cond.initialized C).before args s = true) (h : (Cond.isRef (.static C n d)).before args s = true) (hA : ∀ a : Nat, a < s.heap.size → ¬ A a) : vx_Zq C n d A s s.heap := by
  refine ⟨va_Zqof hl hini h hA, ?_⟩
  obtain ⟨c, k, i, f, a, cell, h1, h2, h3, h4, h5, h6, h7, h8, h9⟩ := Cond.laysStatic_spec hl
  exact ⟨c, k, i, f, a, cell, h1, h2, h3, h4, h5, h6, h7, h8, h9, hA a (Array.getElem?_eq_some_iff.mp h5).1⟩
theorem vx_isRef {C n d : String} {v : Value} {A : Nat → Prop} {s : State} {args : Array Value} (h : va_Z C n d v A s s.heap) (hv : v.isRef = true) : (Cond.isRef (.static C n d)).before args s = true := by
  obtain ⟨cf, kf, fi, f, a, cell, h1, h2, h3, h4, h5, h6, h7, -⟩ := h
  have he : (Term.static C n d).eval args s none [] s = some v := by
    simp [Term.eval, State.fieldNamed?, h1, h2, h4, h5, h6, h7]
  simp only [Cond.before, Cond.holds, Cond.value, he]
  cases v <;> simp_all [Value.isRef]
theorem vx_isRefq {C n d : String} {A : Nat → Prop} {s : State} {args : Array Value} (h : va_Zq C n d A s s.heap) : (Cond.isRef (.static C n d)).before args s = true := by
  rcases h with h | ⟨t, h⟩
  · exact vx_isRef h rfl
  · exact vx_isRef h rfl
/-- the same frame, seen from here: as if the method were called anew in this heap -/
theorem vx_rebase {T : State} (X : Stand p l e R s m args below meth c T locs cells slots) {R' : Room} (hf : R'.frames ≤ R.frames) (hl : R'.locals ≤ R.locals) (hc : cells + R'.cells ≤ R.cells) (hs : slots + R'.slots ≤ R.slots) :
    Stand p l e R' ((T.setVm s.vm).setFrames (.invoking m args :: below)) m args below meth c T [] 0 0 := by
  have htop : (T.setVm s.vm).topJava?.isSome := X.here.top
  have hF : ((T.setVm s.vm).setFrames (.invoking m args :: below)).frames = .invoking m args :: below := State.frames_setFrames _ (State.cur_lt_of_top htop)
  obtain ⟨g₀, hg0⟩ := Option.isSome_iff_exists.mp htop
  obtain ⟨r, hr⟩ := State.topJava?_eq_some.mp hg0
  have hl9 : e.platform.stackLimits (T.setVm s.vm).me = e.platform.stackLimits s.me := X.limits
  have hb9 : (T.setVm s.vm).me.stackBytes = s.me.stackBytes := X.bytes
  refine ⟨X.admits, X.cas, X.clock, hF, ?_, X.hears, X.method, X.code, X.here, X.tail, X.warmed, ?_, ?_, ?_⟩
  · have h := X.room
    have hU : ((T.setVm s.vm).setFrames (.invoking m args :: below)).localsInUse = s.localsInUse := by
      rw [State.localsInUse_invoking hF (meth := meth) (c := c) X.method X.code, State.localsInUse_invoking X.frames X.method X.code]
    simp only [State.hasRoom, Bool.and_eq_true, decide_eq_true_eq] at h ⊢
    obtain ⟨⟨⟨⟨h1, h2, h3, h4, h5, h6⟩, h7⟩, h8⟩, h9⟩ := h
    rw [X.frames, List.length_cons] at h2 h3
    have q1 := X.heapSize
    have q2 := X.used
    simp only [hF, hU, List.length_cons, State.stackLimits_setFrames, State.stackBytes_setFrames, hl9, hb9]
    refine ⟨⟨⟨⟨by omega, by omega, by omega, by omega, by omega, h6⟩, ?_⟩, ?_⟩, X.book⟩
    · show T.heap.size + R'.cells ≤ e.platform.maxCells
      omega
    · show T.slotsUsed + R'.slots ≤ e.platform.maxSlots
      omega
  · rw [State.stackLimits_setFrames]; rfl
  · rw [State.stackBytes_setFrames]; rfl
  · refine ⟨?_, Nat.le_refl _, Nat.le_refl _, ?_, ?_, fun a c9 h9 => ⟨c9, h9, rfl, rfl, fun _ _ => rfl⟩⟩
    · obtain ⟨t, ht, -⟩ := State.frames_cons hr
      show T.setVm s.vm = { ((T.setVm s.vm).setFrames (.invoking m args :: below)).setFrames (T.setVm s.vm).frames with heap := T.heap, slotsUsed := T.slotsUsed }
      rw [State.setFrames_setFrames, State.setFrames_self ht]
      rfl
    · show T.slotsUsed = T.slotsUsed + ((T.heap.toList.drop T.heap.size).map (·.slots.size)).sum
      rw [List.drop_eq_nil_of_le (Nat.le_of_eq Array.length_toList)]
      rfl
    · show ((T.heap.toList.drop T.heap.size).map (·.slots.size)).sum ≤ 0
      rw [List.drop_eq_nil_of_le (Nat.le_of_eq Array.length_toList)]
      exact Nat.le_refl _
/-- 'throw new E()': new; dup; invokespecial; athrow -/
theorem vx_throw0 {cc : ByteArray} {pc : Nat} (hexec : p.tables.exec = Jvm.exec) (hb : c.code = cc) (hl : l.stackTraces = false) {own cls : String} {names : List String} {ik ic mc ms : Nat} {A : Nat → Prop}
    (hown : s.vm.findClass own = some m.cls) (hcls : Bundle.fit cls = true) (hnames : ∀ n ∈ names, Bundle.fit n = true)
    (hk : (Cond.classLink own ik cls).before args s = true) (hini : (Cond.initialized cls).before args s = true) (hat : ∀ w ∈ vx_at0 own ic cls names, w.before args s = true)
    (hgood : ∀ w ∈ Cond.classLink own ik cls :: Cond.initialized cls :: vx_at0 own ic cls names, vx_ot w = true)
    (hU : vx_Zq Bundle.tN "UNASSIGNED_STACK" Bundle.steD A s s.heap) (hN : vx_Zq Bundle.tN "SUPPRESSED_SENTINEL" Bundle.listD A s s.heap) (hS : va_S A s.heap H locs) (hsize : ls.size = c.maxLocals)
    (d0 : decode cc pc = .ok (.new ik, 3)) (d3 : decode cc (pc + 3) = .ok (.dup, 1)) (d4 : decode cc (pc + 4) = .ok (.invokespecial ic, 3)) (d7 : decode cc (pc + 7) = .ok (.athrow, 1))
    (hout : ∀ x ∈ c.exceptionTable.toList, covers x (pc + 7) = false)
    (hRframes : names.length + 3 < R.frames) (hRlocals : (rest.map fun v => v.category).sum + (13 * (names.length + 1) + 42) ≤ R.locals) (hRcells : cells + 1 ≤ R.cells) (hRslots : slots + 6 ≤ R.slots) (hlocks : meth.locks = false)
    (hx : ∀ t : State, s.vm.Alike t.vm → H.size ≤ t.heap.size → (∀ q : Nat, q < H.size → t.heap[q]? = H[q]?) → XC cls s t)
    (hf : ∀ z ∈ locs, free z.base) (hc : cells + 1 ≤ mc) (hs : slots + 6 ≤ ms) :
    W p l e R s m args below meth c H locs cells slots (vx_MQ below Qc XC args s mc ms free) (F0 m pc ls rest) := by
  intro T hT X
  have htr : e.platform.stackTraces = false := (show e.platform.stackTraces = l.stackTraces by rw [X.admits.platform]).trans hl
  have Y := vx_rebase X (R' := { frames := R.frames, locals := R.locals, cells := 1, slots := 6 }) (Nat.le_refl _) (Nat.le_refl _) hRcells hRslots
  obtain ⟨s', hA⟩ : ∃ z, z = (T.setVm s.vm).setFrames (.invoking m args :: below) := ⟨_, rfl⟩
  rw [← hA] at Y
  have hvm : s'.vm = s.vm := by rw [hA]; rfl
  have hhp : s'.heap = H := by rw [hA]; exact hT
  have hW0 : s.WarmedH s'.vm := by rw [hvm]; exact State.WarmedH.refl s
  have hat' : ∀ w ∈ vx_at0 own ic cls names, w.before args s' = true := fun w hw => vx_ot_at hW0 hvm.symm (hgood w (List.mem_cons_of_mem _ (List.mem_cons_of_mem _ hw))) (hat w hw)
  have hk' : (Cond.classLink own ik cls).before args s' = true := vx_ot_at hW0 hvm.symm (hgood _ List.mem_cons_self) hk
  have hini' : (Cond.initialized cls).before args s' = true := vx_ot_at hW0 hvm.symm (hgood _ (List.mem_cons_of_mem _ List.mem_cons_self)) hini
  have hU' : vx_Zq Bundle.tN "UNASSIGNED_STACK" Bundle.steD A s' s'.heap := by rw [hhp]; exact vx_Zq.moved hW0.alike (hU.kept hS.2.1)
  have hN' : vx_Zq Bundle.tN "SUPPRESSED_SENTINEL" Bundle.listD A s' s'.heap := by rw [hhp]; exact vx_Zq.moved hW0.alike (hN.kept hS.2.1)
  have h : ∀ w ∈ Bundle.ownAtoms0 own ic cls names, w.before args s' = true := vx_own hat' (vx_isRefq hU'.1) (vx_isRefq hN'.1) hU'.2.word hN'.2.word
  have hown' : s'.vm.findClass own = some m.cls := by rw [hvm]; exact hown
  have hins : (Cond.instantiable cls 6).before args s' = true := h _ (by simp [Bundle.ownAtoms0])
  obtain ⟨vm₁, cX, kX, hfX, hkX, -, -, X₁, st1⟩ := Y.newCold hexec (own := own) (C := cls) (index := ik) (n := 6) hown' hk' hins hini'
    (g := F0 m pc ls rest) rfl (by rw [hb]; exact d0) (Nat.le_refl _) (Nat.le_refl _)
  generalize hT1 : (T.setVm vm₁).pushCell { cls := cX, slots := kX.instanceTypes.map defaultValue, vm := .none } = T1 at X₁ st1
  have hcat : (Value.ref T.heap.size).category = 1 := rfl
  have hcellA : T1.heap[T.heap.size]? = some (freshCell cX kX) := by rw [← hT1]; exact State.heap_pushCell_size _ _
  have d3' : decode c.code (pc + 3) = .ok (.dup, 1) := by rw [hb]; exact d3
  obtain ⟨U, hsteps, hrun, hend, hW, hsame, ce, hce, hO⟩ := X₁.ctorThrow0 hexec htr (own := own) (cls := cls) (names := names) (ic := ic) hown' hcls hnames h (fun x hx => nomatch hx) hfX hkX hcellA (by rw [hhp, hT]; exact Nat.le_refl _)
    (g := { method := m, pc := pc + 4, locals := ls, stack := .ref T.heap.size :: .ref T.heap.size :: rest, locked := none }) rfl hsize rfl rfl (rest := rest) rfl
    (by rw [hb]; exact d4) (by rw [hb]; exact d7) hout hRframes (by simp only [List.map_cons, List.sum_cons, hcat]; omega) hlocks
  obtain ⟨f1, f2⟩ := vx_frame hsame
  rw [hhp] at f1 f2
  have hWs : s.WarmedH U.vm := State.WarmedH.trans hW0 hW
  have hcl : s.vm.findClass cls = some ce.cls := by
    have h9 := hO.cls
    rw [hvm] at h9
    exact h9
  have hall : s.sameButNew ({ U with vm := s.vm } : State) locs mc ms := by
    subst hA
    obtain ⟨e1, e2⟩ := hsame
    rw [State.setFrames_setFrames] at e1
    have h2 : (T.setVm s.vm).sameButNew ({ U with vm := s.vm } : State) [] (0 + 1) (0 + 6) := ⟨e1, e2⟩
    have h3 := X.same.trans h2
    rw [List.append_nil] at h3
    exact h3.mono hc hs
  refine ⟨U, ?_, .threw T.heap.size, hrun, hend, Or.inr ⟨T.heap.size, rfl, cls, ce, locs, hx U hWs.alike f1 (fun q hq => f2 q hq (fun z hz => nomatch hz)), hce, hO.vm, hcl, hWs, hall, hf⟩⟩
  refine st1 _ ?_
  show Steps p.tables e below (T1.setTop { method := m, pc := pc + 3, locals := ls, stack := .ref T.heap.size :: rest, locked := none }) _
  jvm_step X₁.here [X₁.here.top, hexec, d3', Value.category]
  exact hsteps
/-- 'throw new E("text")': new; dup; ldc; invokespecial; athrow -/
theorem vx_throwS {cc : ByteArray} {pc : Nat} (hexec : p.tables.exec = Jvm.exec) (hb : c.code = cc) (hl : l.stackTraces = false) {own cls text : String} {names : List String} {ik is ic mc ms sa : Nat} {A : Nat → Prop}
    (hown : s.vm.findClass own = some m.cls) (hcls : Bundle.fit cls = true) (hnames : ∀ n ∈ names, Bundle.fit n = true)
    (hk : (Cond.classLink own ik cls).before args s = true) (hini : (Cond.initialized cls).before args s = true) (hstr : vk_R own is text sa s) (hat : ∀ w ∈ vx_atS own ic cls names, w.before args s = true)
    (hgood : ∀ w ∈ Cond.classLink own ik cls :: Cond.initialized cls :: vx_atS own ic cls names, vx_ot w = true)
    (hU : vx_Zq Bundle.tN "UNASSIGNED_STACK" Bundle.steD A s s.heap) (hN : vx_Zq Bundle.tN "SUPPRESSED_SENTINEL" Bundle.listD A s s.heap) (hS : va_S A s.heap H locs) (hsize : ls.size = c.maxLocals)
    (d0 : decode cc pc = .ok (.new ik, 3)) (d3 : decode cc (pc + 3) = .ok (.dup, 1)) (d4 : decode cc (pc + 4) = .ok (.ldc is, 2)) (d6 : decode cc (pc + 6) = .ok (.invokespecial ic, 3)) (d9 : decode cc (pc + 9) = .ok (.athrow, 1))
    (hout : ∀ x ∈ c.exceptionTable.toList, covers x (pc + 9) = false)
    (hRframes : names.length + 3 < R.frames) (hRlocals : (rest.map fun v => v.category).sum + (13 * (names.length + 1) + 43) ≤ R.locals) (hRcells : cells + 1 ≤ R.cells) (hRslots : slots + 6 ≤ R.slots) (hlocks : meth.locks = false)
    (hx : ∀ t : State, s.vm.Alike t.vm → H.size ≤ t.heap.size → (∀ q : Nat, q < H.size → t.heap[q]? = H[q]?) → XC cls s t)
    (hf : ∀ z ∈ locs, free z.base) (hc : cells + 1 ≤ mc) (hs : slots + 6 ≤ ms) :
    W p l e R s m args below meth c H locs cells slots (vx_MQ below Qc XC args s mc ms free) (F0 m pc ls rest) := by
  intro T hT X
  have htr : e.platform.stackTraces = false := (show e.platform.stackTraces = l.stackTraces by rw [X.admits.platform]).trans hl
  have Y := vx_rebase X (R' := { frames := R.frames, locals := R.locals, cells := 1, slots := 6 }) (Nat.le_refl _) (Nat.le_refl _) hRcells hRslots
  obtain ⟨s', hA⟩ : ∃ z, z = (T.setVm s.vm).setFrames (.invoking m args :: below) := ⟨_, rfl⟩
  rw [← hA] at Y
  have hvm : s'.vm = s.vm := by rw [hA]; rfl
  have hhp : s'.heap = H := by rw [hA]; exact hT
  have hW0 : s.WarmedH s'.vm := by rw [hvm]; exact State.WarmedH.refl s
  have hat' : ∀ w ∈ vx_atS own ic cls names, w.before args s' = true := fun w hw => vx_ot_at hW0 hvm.symm (hgood w (List.mem_cons_of_mem _ (List.mem_cons_of_mem _ hw))) (hat w hw)
  have hk' : (Cond.classLink own ik cls).before args s' = true := vx_ot_at hW0 hvm.symm (hgood _ List.mem_cons_self) hk
  have hini' : (Cond.initialized cls).before args s' = true := vx_ot_at hW0 hvm.symm (hgood _ (List.mem_cons_of_mem _ List.mem_cons_self)) hini
  have hU' : vx_Zq Bundle.tN "UNASSIGNED_STACK" Bundle.steD A s' s'.heap := by rw [hhp]; exact vx_Zq.moved hW0.alike (hU.kept hS.2.1)
  have hN' : vx_Zq Bundle.tN "SUPPRESSED_SENTINEL" Bundle.listD A s' s'.heap := by rw [hhp]; exact vx_Zq.moved hW0.alike (hN.kept hS.2.1)
  have h : ∀ w ∈ Bundle.ownAtoms own ic cls names, w.before args s' = true := vx_own hat' (vx_isRefq hU'.1) (vx_isRefq hN'.1) hU'.2.word hN'.2.word
  have hown' : s'.vm.findClass own = some m.cls := by rw [hvm]; exact hown
  have hins : (Cond.instantiable cls 6).before args s' = true := h _ (by simp [Bundle.ownAtoms])
  obtain ⟨vm₁, cX, kX, hfX, hkX, -, -, X₁, st1⟩ := Y.newCold hexec (own := own) (C := cls) (index := ik) (n := 6) hown' hk' hins hini'
    (g := F0 m pc ls rest) rfl (by rw [hb]; exact d0) (Nat.le_refl _) (Nat.le_refl _)
  generalize hT1 : (T.setVm vm₁).pushCell { cls := cX, slots := kX.instanceTypes.map defaultValue, vm := .none } = T1 at X₁ st1
  have hcat : (Value.ref T.heap.size).category = 1 := rfl
  have hcellA : T1.heap[T.heap.size]? = some (freshCell cX kX) := by rw [← hT1]; exact State.heap_pushCell_size _ _
  have d3' : decode c.code (pc + 3) = .ok (.dup, 1) := by rw [hb]; exact d3
  have d4' : decode c.code (pc + 4) = .ok (.ldc is, 2) := by rw [hb]; exact d4
  have hstr' : vk_R own is text sa s' := vk_R.warm hW0 hstr
  obtain ⟨U, hsteps, hrun, hend, hW, hsame, ce, hce, hO⟩ := X₁.ctorThrowS hexec htr (own := own) (cls := cls) (names := names) (ic := ic) hown' hcls hnames h (fun x hx => nomatch hx) hfX hkX hcellA (by rw [hhp, hT]; exact Nat.le_refl _) (msg := .ref sa) rfl
    (g := { method := m, pc := pc + 6, locals := ls, stack := .ref sa :: .ref T.heap.size :: .ref T.heap.size :: rest, locked := none }) rfl hsize rfl rfl (rest := rest) rfl
    (by rw [hb]; exact d6) (by rw [hb]; exact d9) hout hRframes (by simp only [List.map_cons, List.sum_cons, hcat]; omega) hlocks
  obtain ⟨f1, f2⟩ := vx_frame hsame
  rw [hhp] at f1 f2
  have hWs : s.WarmedH U.vm := State.WarmedH.trans hW0 hW
  have hcl : s.vm.findClass cls = some ce.cls := by
    have h9 := hO.cls
    rw [hvm] at h9
    exact h9
  have hall : s.sameButNew ({ U with vm := s.vm } : State) locs mc ms := by
    subst hA
    obtain ⟨e1, e2⟩ := hsame
    rw [State.setFrames_setFrames] at e1
    have h2 : (T.setVm s.vm).sameButNew ({ U with vm := s.vm } : State) [] (0 + 1) (0 + 6) := ⟨e1, e2⟩
    have h3 := X.same.trans h2
    rw [List.append_nil] at h3
    exact h3.mono hc hs
  refine ⟨U, ?_, .threw T.heap.size, hrun, hend, Or.inr ⟨T.heap.size, rfl, cls, ce, locs, hx U hWs.alike f1 (fun q hq => f2 q hq (fun z hz => nomatch hz)), hce, hO.vm, hcl, hWs, hall, hf⟩⟩
  refine st1 _ ?_
  show Steps p.tables e below (T1.setTop { method := m, pc := pc + 3, locals := ls, stack := .ref T.heap.size :: rest, locked := none }) _
  jvm_step X₁.here [X₁.here.top, hexec, d3', Value.category]
  exact X₁.ldcString hexec (own := own) (text := text) (index := is) (a := sa) hown' hstr'.1 hstr'.2
    (g := { method := m, pc := pc + 4, locals := ls, stack := .ref T.heap.size :: .ref T.heap.size :: rest, locked := none }) rfl d4' _ hsteps
/-- 'throw new E("text")', the text by a wide index -/
theorem vx_throwSW {cc : ByteArray} {pc : Nat} (hexec : p.tables.exec = Jvm.exec) (hb : c.code = cc) (hl : l.stackTraces = false) {own cls text : String} {names : List String} {ik is ic mc ms sa : Nat} {A : Nat → Prop}
    (hown : s.vm.findClass own = some m.cls) (hcls : Bundle.fit cls = true) (hnames : ∀ n ∈ names, Bundle.fit n = true)
    (hk : (Cond.classLink own ik cls).before args s = true) (hini : (Cond.initialized cls).before args s = true) (hstr : vk_R own is text sa s) (hat : ∀ w ∈ vx_atS own ic cls names, w.before args s = true)
    (hgood : ∀ w ∈ Cond.classLink own ik cls :: Cond.initialized cls :: vx_atS own ic cls names, vx_ot w = true)
    (hU : vx_Zq Bundle.tN "UNASSIGNED_STACK" Bundle.steD A s s.heap) (hN : vx_Zq Bundle.tN "SUPPRESSED_SENTINEL" Bundle.listD A s s.heap) (hS : va_S A s.heap H locs) (hsize : ls.size = c.maxLocals)
    (d0 : decode cc pc = .ok (.new ik, 3)) (d3 : decode cc (pc + 3) = .ok (.dup, 1)) (d4 : decode cc (pc + 4) = .ok (.ldc_w is, 3)) (d7 : decode cc (pc + 7) = .ok (.invokespecial ic, 3)) (d10 : decode cc (pc + 10) = .ok (.athrow, 1))
    (hout : ∀ x ∈ c.exceptionTable.toList, covers x (pc + 10) = false)
    (hRframes : names.length + 3 < R.frames) (hRlocals : (rest.map fun v => v.category).sum + (13 * (names.length + 1) + 43) ≤ R.locals) (hRcells : cells + 1 ≤ R.cells) (hRslots : slots + 6 ≤ R.slots) (hlocks : meth.locks = false)
    (hx : ∀ t : State, s.vm.Alike t.vm → H.size ≤ t.heap.size → (∀ q : Nat, q < H.size → t.heap[q]? = H[q]?) → XC cls s t)
    (hf : ∀ z ∈ locs, free z.base) (hc : cells + 1 ≤ mc) (hs : slots + 6 ≤ ms) :
    W p l e R s m args below meth c H locs cells slots (vx_MQ below Qc XC args s mc ms free) (F0 m pc ls rest) := by
  intro T hT X
  have htr : e.platform.stackTraces = false := (show e.platform.stackTraces = l.stackTraces by rw [X.admits.platform]).trans hl
  have Y := vx_rebase X (R' := { frames := R.frames, locals := R.locals, cells := 1, slots := 6 }) (Nat.le_refl _) (Nat.le_refl _) hRcells hRslots
  obtain ⟨s', hA⟩ : ∃ z, z = (T.setVm s.vm).setFrames (.invoking m args :: below) := ⟨_, rfl⟩
  rw [← hA] at Y
  have hvm : s'.vm = s.vm := by rw [hA]; rfl
  have hhp : s'.heap = H := by rw [hA]; exact hT
  have hW0 : s.WarmedH s'.vm := by rw [hvm]; exact State.WarmedH.refl s
  have hat' : ∀ w ∈ vx_atS own ic cls names, w.before args s' = true := fun w hw => vx_ot_at hW0 hvm.symm (hgood w (List.mem_cons_of_mem _ (List.mem_cons_of_mem _ hw))) (hat w hw)
  have hk' : (Cond.classLink own ik cls).before args s' = true := vx_ot_at hW0 hvm.symm (hgood _ List.mem_cons_self) hk
  have hini' : (Cond.initialized cls).before args s' = true := vx_ot_at hW0 hvm.symm (hgood _ (List.mem_cons_of_mem _ List.mem_cons_self)) hini
  have hU' : vx_Zq Bundle.tN "UNASSIGNED_STACK" Bundle.steD A s' s'.heap := by rw [hhp]; exact vx_Zq.moved hW0.alike (hU.kept hS.2.1)
  have hN' : vx_Zq Bundle.tN "SUPPRESSED_SENTINEL" Bundle.listD A s' s'.heap := by rw [hhp]; exact vx_Zq.moved hW0.alike (hN.kept hS.2.1)
  have h : ∀ w ∈ Bundle.ownAtoms own ic cls names, w.before args s' = true := vx_own hat' (vx_isRefq hU'.1) (vx_isRefq hN'.1) hU'.2.word hN'.2.word
  have hown' : s'.vm.findClass own = some m.cls := by rw [hvm]; exact hown
  have hins : (Cond.instantiable cls 6).before args s' = true := h _ (by simp [Bundle.ownAtoms])
  obtain ⟨vm₁, cX, kX, hfX, hkX, -, -, X₁, st1⟩ := Y.newCold hexec (own := own) (C := cls) (index := ik) (n := 6) hown' hk' hins hini'
    (g := F0 m pc ls rest) rfl (by rw [hb]; exact d0) (Nat.le_refl _) (Nat.le_refl _)
  generalize hT1 : (T.setVm vm₁).pushCell { cls := cX, slots := kX.instanceTypes.map defaultValue, vm := .none } = T1 at X₁ st1
  have hcat : (Value.ref T.heap.size).category = 1 := rfl
  have hcellA : T1.heap[T.heap.size]? = some (freshCell cX kX) := by rw [← hT1]; exact State.heap_pushCell_size _ _
  have d3' : decode c.code (pc + 3) = .ok (.dup, 1) := by rw [hb]; exact d3
  have d4' : decode c.code (pc + 4) = .ok (.ldc_w is, 3) := by rw [hb]; exact d4
  have hstr' : vk_R own is text sa s' := vk_R.warm hW0 hstr
  obtain ⟨U, hsteps, hrun, hend, hW, hsame, ce, hce, hO⟩ := X₁.ctorThrowS hexec htr (own := own) (cls := cls) (names := names) (ic := ic) hown' hcls hnames h (fun x hx => nomatch hx) hfX hkX hcellA (by rw [hhp, hT]; exact Nat.le_refl _) (msg := .ref sa) rfl
    (g := { method := m, pc := pc + 7, locals := ls, stack := .ref sa :: .ref T.heap.size :: .ref T.heap.size :: rest, locked := none }) rfl hsize rfl rfl (rest := rest) rfl
    (by rw [hb]; exact d7) (by rw [hb]; exact d10) hout hRframes (by simp only [List.map_cons, List.sum_cons, hcat]; omega) hlocks
  obtain ⟨f1, f2⟩ := vx_frame hsame
  rw [hhp] at f1 f2
  have hWs : s.WarmedH U.vm := State.WarmedH.trans hW0 hW
  have hcl : s.vm.findClass cls = some ce.cls := by
    have h9 := hO.cls
    rw [hvm] at h9
    exact h9
  have hall : s.sameButNew ({ U with vm := s.vm } : State) locs mc ms := by
    subst hA
    obtain ⟨e1, e2⟩ := hsame
    rw [State.setFrames_setFrames] at e1
    have h2 : (T.setVm s.vm).sameButNew ({ U with vm := s.vm } : State) [] (0 + 1) (0 + 6) := ⟨e1, e2⟩
    have h3 := X.same.trans h2
    rw [List.append_nil] at h3
    exact h3.mono hc hs
  refine ⟨U, ?_, .threw T.heap.size, hrun, hend, Or.inr ⟨T.heap.size, rfl, cls, ce, locs, hx U hWs.alike f1 (fun q hq => f2 q hq (fun z hz => nomatch hz)), hce, hO.vm, hcl, hWs, hall, hf⟩⟩
  refine st1 _ ?_
  show Steps p.tables e below (T1.setTop { method := m, pc := pc + 3, locals := ls, stack := .ref T.heap.size :: rest, locked := none }) _
  jvm_step X₁.here [X₁.here.top, hexec, d3', Value.category]
  exact X₁.ldcStringW hexec (own := own) (text := text) (index := is) (a := sa) hown' hstr'.1 hstr'.2
    (g := { method := m, pc := pc + 4, locals := ls, stack := .ref T.heap.size :: .ref T.heap.size :: rest, locked := none }) rfl d4' _ hsteps
end Ends
section Bodies
variable {l : Launch}
theorem vx_ofW {y : MethodName} {ws ws' : List Cond} {rm : Room} {Pc : Array Value → State → Prop} {Qc : Array Value → State → Outcome → State → Prop} {XC : String → State → State → Prop} {mc ms : Nat} {free : Addr → Prop} {cc : ByteArray} {maxL : Nat} {ret : Option FieldType}
    (hy : plainName y.cls = true) (hw : ws = Cond.code y cc maxL ret :: ws')
    (body : ∀ p e s m args below meth c s₁, BodyLoose p l y (headSpec ws rm) cc maxL ret e s m args below meth c s₁ → c.maxLocals = maxL → (∀ x ∈ c.exceptionTable.toList, False) → Pc args s →
      W p l e (headSpec ws rm).room s m args below meth c s.heap [] 0 0 (vx_MQ below Qc XC args s mc ms free) (entryFrame m args maxL)) : vx_Met l y ws rm Pc Qc XC mc ms free := by
  refine MetFree.of_bodyS (code := cc) (maxLocals := maxL) (ret := ret) hy ?_ ?_
  · intro args s m h hn
    obtain ⟨meth, c, h1, h2, h3, h4, h5, h6, -, -⟩ := Cond.code_spec hn (atoms_spec (ws := ws) h _ (by rw [hw]; exact List.mem_cons_self))
    exact ⟨meth, c, h1, h2, h3, h4, h5, h6⟩
  · intro p e s m args below meth c s₁ B hml hP _
    have hh0 : s₁.heap = s.heap := by rw [B.state]; rfl
    have ht : ∀ x ∈ c.exceptionTable.toList, False := by
      obtain ⟨meth9, c9, h1, h2, -, -, -, -, h7, -⟩ := Cond.code_spec B.named (atoms_spec (ws := ws) B.pre _ (by rw [hw]; exact List.mem_cons_self))
      cases Option.some.inj (h1.symm.trans B.method)
      cases Option.some.inj (h2.symm.trans (Stand.of_body B).code)
      intro x hx
      rw [Array.isEmpty_iff.mp h7] at hx
      cases hx
    obtain ⟨t, a1, o, b1, b2, b3⟩ := body p e s m args below meth c s₁ B hml ht hP s₁ hh0 (Stand.of_body B)
    exact ⟨t, o, a1, b1, b2, b3⟩
/-- the table of a body with handlers -/
theorem vx_table {p : Program} {x y : MethodName} {S : Spec} {cc bytes : ByteArray} {maxL maxL' : Nat} {ret ret' : Option FieldType} {e : Env} {s s₁ : State} {m : MethodId} {args : Array Value} {below : List Frame} {meth : Method} {c : Code} {hh : List (Nat × Nat × Nat × Nat)}
    (B : BodyLoose p l y S cc maxL ret e s m args below meth c s₁) (h : (Cond.codeWith y bytes maxL' ret' hh).before args s = true) : c.exceptionTable.toList = tableOf hh := by
  obtain ⟨m9, meth9, c9, hn9, h1, h2, -, -, h6, -⟩ := Cond.codeWith_spec h
  cases Option.some.inj (hn9.symm.trans B.named)
  cases Option.some.inj (h1.symm.trans B.method)
  cases Option.some.inj (h2.symm.trans (Stand.of_body B).code)
  rw [← h6, table_eq]
end Bodies
end VXA
/-! ===== END ===== -/
/-! ===== BEGIN a static call of a method with an exception table ===== -/
section VXS
variable {p : Program} {l : Launch} {e : Env} {R : Room} {s : State} {m : MethodId} {args : Array Value} {below : List Frame} {meth : Method} {c : Code} {T : State} {H : Heap} {locs : List Loc} {cells slots : Nat}
abbrev vx_CSW (R : Room) (s : State) (args : Array Value) (own : String) (index : Nat) (y : MethodName) (bytes : ByteArray) (maxL : Nat) (ret : Option FieldType) (hh : List (Nat × Nat × Nat × Nat)) (ws : List Cond) (rm : Room) (mc ms n : Nat) : Prop :=
  (rm.cells = mc ∧ rm.slots = ms ∧ rm.frames + 1 ≤ R.frames ∧ 8 + (maxL + 11) + rm.locals ≤ R.locals ∧ (∀ w ∈ ws, ∀ (a' : Array Value) (U : State), s.WarmedH U.vm → w.before a' U = true) ∧ Cond.codeWith y bytes maxL ret hh ∈ ws) ∧
  (Cond.codeWith y bytes maxL ret hh).before args s = true ∧ (Cond.initialized y.cls).before args s = true ∧ (y.cls ≠ "java/lang/invoke/MethodHandle" ∧ y.cls ≠ "java/lang/invoke/VarHandle") ∧
  (∀ sig, parseMethodDescriptor y.desc = some sig → n = sig.parameters.length) ∧ (Cond.methodLink own index y).before args s = true ∧ (Cond.static y).before args s = true
theorem vx_cwSW {own : String} {index maxL mc ms : Nat} {y : MethodName} {bytes : ByteArray} {ret : Option FieldType} {hh : List (Nat × Nat × Nat × Nat)} {Ts ws ws' : List Cond} {rm : Room} (n : Nat) (ht : ∀ w ∈ Ts, w.before args s = true) (hT : GoodIn Ts (va_wsS own index y ws)) (hw : ws = Cond.codeWith y bytes maxL ret hh :: ws') (hrc : rm.cells = mc) (hrs : rm.slots = ms)
    (hd : y.cls ≠ "java/lang/invoke/MethodHandle" ∧ y.cls ≠ "java/lang/invoke/VarHandle" ∧ (parseMethodDescriptor y.desc).map (fun d => d.parameters.length) = some n) (hR : rm.frames + 1 ≤ R.frames ∧ 8 + (maxL + 11) + rm.locals ≤ R.locals) :
    vx_CSW R s args own index y bytes maxL ret hh ws rm mc ms n := by
  have ok : ∀ w ∈ va_wsS own index y ws, w.before args s = true := fun w h => ht w (hT w h).1
  have hG : GoodIn Ts ws := fun w h => hT w (by unfold va_wsS; exact List.mem_append_right _ h)
  have hc : Cond.codeWith y bytes maxL ret hh ∈ ws := by rw [hw]; exact List.mem_cons_self
  refine ⟨⟨hrc, hrs, hR.1, hR.2, pay_in ht hG, hc⟩, ht _ (hG _ hc).1, ok _ (by simp [va_wsS]), ⟨hd.1, hd.2.1⟩, fun sig h => ?_, ok _ (by simp [va_wsS]), ok _ (by simp [va_wsS])⟩
  have h2 := hd.2.2
  rw [h] at h2
  exact (Option.some.inj h2).symm
theorem vx_callSW (X : Stand p l e R s m args below meth c T locs cells slots) (hexec : p.tables.exec = Jvm.exec) {own : String} {index : Nat} {y : MethodName} {bytes : ByteArray} {maxL : Nat} {ret : Option FieldType} {hh : List (Nat × Nat × Nat × Nat)}
    (hown : s.vm.findClass own = some m.cls) (hlink : (Cond.methodLink own index y).before args s = true) (hstat : (Cond.static y).before args s = true) (hinit : (Cond.initialized y.cls).before args s = true)
    (hcode : (Cond.codeWith y bytes maxL ret hh).before args s = true) (hy : y.cls ≠ "java/lang/invoke/MethodHandle" ∧ y.cls ≠ "java/lang/invoke/VarHandle")
    {W9 : Nat} {Pre : Pt → Array Value → Prop} {Post : Pt → Array Value → Option Value → Pt → Prop} (hK : Back l R p e below s args y 3 W9 Pre Post)
    {g : JFrame} (hg : g.method = m) (hsize : g.locals.size = c.maxLocals) {argsL rest : List Value} (hlen : ∀ sig, parseMethodDescriptor y.desc = some sig → argsL.length = sig.parameters.length)
    (hstack : g.stack = argsL.reverse ++ rest) (hW : 2 * g.monitorRoom + (rest.map fun v => v.category).sum ≤ W9) (hdg : decode c.code g.pc = .ok (.invokestatic index, 3))
    (hpre : ∀ vm₁, s.WarmedH vm₁ → Pre ⟨T.setVm vm₁, locs, cells, slots⟩ argsL.toArray) :
    ∃ (v : Option Value) (vm₁ : Vm) (B : Pt), s.WarmedH vm₁ ∧ Stand p l e R s m args below meth c B.U B.locs B.cells B.slots ∧ Post ⟨T.setVm vm₁, locs, cells, slots⟩ argsL.toArray v B ∧
      ∀ target, Steps p.tables e below (B.U.setTop { g with pc := g.pc + 3, stack := v.toList ++ rest }) target → Steps p.tables e below (T.setTop g) target := by
  obtain ⟨mk, methM, cM, hnamed, hmethM, -, -, -, -, -, -, hsigM⟩ := Cond.codeWith_spec hcode
  have hstatic : methM.isStatic = true := Cond.static_spec hnamed hmethM hstat
  obtain ⟨kP, hkP, -⟩ := className_of_methodNamed hnamed
  have hinitP : kP.init = .initialized := Cond.initialized_spec (findClass_of_methodNamed hnamed) hkP hinit
  obtain ⟨vm₁, X₁, hstep₁⟩ := X.invokestatic hexec hown hlink hnamed hmethM hstatic hkP hinitP hy (g := g) hg (argsL := argsL) (rest := rest) (hlen _ hsigM) hstack hdg
  obtain ⟨v, B, X', hpost, hsteps⟩ := hK m meth c ⟨T.setVm vm₁, locs, cells, slots⟩ { g with stack := rest } (.invokestatic index) mk argsL.toArray X₁ hg hsize hdg hW (X₁.named hnamed) (hpre vm₁ X₁.warmed)
  exact ⟨v, vm₁, B, X₁.warmed, X', hpost, fun target h => hstep₁ _ fun acts => by rw [doInvoke_state]; exact hsteps.trans h⟩
theorem vx_runSW {y : MethodName} {bytes cc : ByteArray} {maxL nL mc ms n index : Nat} {ret : Option FieldType} {hh : List (Nat × Nat × Nat × Nat)} {ws : List Cond} {rm : Room} {Pc : Array Value → State → Prop} {Qc : Array Value → State → Outcome → State → Prop} {free : Addr → Prop} {Ts : List Cond} {own : String} {As rest : List Value} {g : JFrame}
    (S : CallFix p m c cc nL s args Ts own) (hM : Met l y ws rm Pc Qc mc ms free) (cw : vx_CSW R s args own index y bytes maxL ret hh ws rm mc ms n) (hp : PreS s H Pc As)
    (hg : g.method = m) (hn : As.length = n) (hsize : g.locals.size = nL) (hstack : g.stack = As.reverse ++ rest) (hW : 2 * g.monitorRoom + (rest.map fun v => v.category).sum ≤ 8) (hdg : decode cc g.pc = .ok (.invokestatic index, 3)) (hf : cells + mc ≤ R.cells ∧ slots + ms ≤ R.slots) :
    va_Run p l e R s m args below meth c H locs cells slots mc ms g rest (Qc As.toArray) (free) := by
  obtain ⟨⟨hrc, hrs, hfr, hlo, hws, hcw⟩, hcode, hini, hy, hlen, hl, hstt⟩ := cw
  have hK : Back l R p e below s args y 3 8 (PreOf R mc ms Pc) (PostOf Qc mc ms free) := va_backW (hh := hh) (bytes := bytes) (maxL := maxL) (ret := ret) hM hp.1 hrc hrs hfr hlo hws hcw (fun a' U hW => word_at hW (Or.inl (by first | rfl | simp [Cond.onTables, Cond.keeps, Cond.steady])) hini)
  obtain ⟨hx, hb, hml, ho, -⟩ := S
  intro T hT X
  obtain ⟨v, vm₁, ⟨U', l2, c2, s2⟩, hW₁, X', ⟨g', mk, t, L, e1, e2, hq, h1, hL, h2, h3⟩, st⟩ := vx_callSW X hx (hh := hh) (bytes := bytes) (maxL := maxL) (ret := ret) ho hl hstt hini hcode hy hK hg (hsize.trans hml.symm) (argsL := As) (rest := rest) (fun sig h => hn.trans (hlen sig h)) hstack hW (by rw [hb]; exact hdg)
    (fun vm₁ hW₁ => ⟨hf.1, hf.2, hp.2 (T.setVm vm₁) hT hW₁⟩)
  dsimp only [Pt.U, Pt.locs, Pt.cells, Pt.slots] at X' e1 e2 h1 h2 h3 st
  subst h1; subst h2; subst h3
  exact ⟨v, (T.setVm vm₁).calling g' mk As.toArray, t, U', L, hT, X', hL, e1, e2, hq, st⟩
/-- not caught here, past rows that name other classes: it goes on to the caller -/
theorem vx_outP {p : Program} {l : Launch} {e : Env} {R : Room} {s : State} {m : MethodId} {args : Array Value} {below : List Frame} {meth : Method} {c : Code} {H : Heap} {locs : List Loc} {cells slots : Nat} {free : Addr → Prop} {ls : Array Slot} {rest : List Value} {Qc : Array Value → State → Outcome → State → Prop} {XC : String → State → State → Prop}
    {pc : Nat} {own E : String} {ce : Cell} {q : Addr} {mc ms : Nat} (hown : s.vm.findClass own = some m.cls) (hlocks : meth.locks = false)
    (hpass : ∀ z ∈ c.exceptionTable.toList, covers z pc = false ∨ (z.catchType ≠ 0 ∧ ∃ nm : String, (Cond.classLink own z.catchType nm).before args s = true ∧ va_Nc E nm s)) (hcell : H[q]? = some ce) (hv : ce.vm = .none) (hcl : s.vm.findClass E = some ce.cls)
    (hx : ∀ t : State, t.heap = H → s.vm.Alike t.vm → XC E s t) (hf : ∀ z ∈ locs, free z.base) (hc : cells ≤ mc) (hs : slots ≤ ms) :
    vx_W p l e R s m args below meth c H locs cells slots (vx_MQ below Qc XC args s mc ms free) (F0 m pc ls rest) q := by
  intro T hT X
  have hpl : e.platform.magicAccessors = ({} : Platform).magicAccessors := by rw [X.admits.platform]
  obtain ⟨vm', hW', X', st⟩ := X.outThrough hlocks q (g := F0 m pc ls rest) rfl rfl rfl (cell := ce) (by rw [hT]; exact hcell) (by rw [hv]; rfl)
    (by obtain ⟨k9, h9, -⟩ := Vm.findClass_spec hcl; exact ⟨k9, h9⟩) (fun z hz => by
      rcases hpass z hz with h | ⟨hz0, nm, hl1, hn1⟩
      · exact Or.inl h
      · obtain ⟨c6, hc6, hcl6⟩ := Cond.classLink_spec hown hl1 e.platform hpl
        obtain ⟨a8, b8, h1, h2, h3⟩ := hn1
        cases Option.some.inj (h1.symm.trans hcl)
        cases Option.some.inj (h2.symm.trans hc6)
        exact Or.inr ⟨hz0, _, hcl6, h3⟩)
  obtain ⟨g₀, hfr⟩ := X'.frames_eq
  have hcell9 : ((T.setVm vm').setFrames (.throwing q :: below)).heap[q]? = some ce := by
    show T.heap[q]? = some ce
    rw [hT]; exact hcell
  have hend : Ended ((T.setVm vm').setFrames (.throwing q :: below)) below (.threw q) := State.frames_setFrames _ (State.cur_lt_of_frames hfr)
  refine ⟨(T.setVm vm').setFrames (.throwing q :: below), ?_, .threw q, X'.here.running, hend, Or.inr ⟨q, rfl, E, ce, locs, hx _ hT (X'.ends _).1.alike, hcell9, hv, hcl, (X'.ends _).1, (X'.ends _).2.mono hc hs, hf⟩⟩
  rw [X.pushThrowing_eq]
  exact st
/-- a thing of a world lies in the heap -/
theorem vx_lt {D : va_G} {cl : List vw_C} {ws : va_W} {H1 : Heap} (h : va_P D cl ws H1) {k : Nat} {q : Nat × va_E} (hk : ws[k]? = some q) : q.1 < H1.size := (h k q hk).lt
end VXS
/-! ===== END ===== -/
/-! ===== BEGIN methods with a table of their own: called by a name, returning or throwing ===== -/
section VXH
/-! vx_backW, vx_callVX, vx_callSX, vx_callVW, vx_runVW, vx_runVX, vx_runSX, vx_ofWH follow the same proofs as their sisters above (Free/Laws.lean, Shelf42/LK1.lean); vx_outP calls Shelf42/NT130.lean (outThrough). -/
section
variable {l : Launch} {R : Room} {p : Program} {e : Env} {below : List Frame} {s : State} {sargs : Array Value} {y : MethodName} {len W9 : Nat}
theorem vx_backW {ws : List Cond} {rm : Room} {Pc : Array Value → State → Prop} {Qc : Array Value → State → Outcome → State → Prop} {XC : String → State → State → Prop} {mc ms : Nat} {free : Addr → Prop} {bytes : ByteArray} {maxL : Nat} {ret : Option FieldType} {hh : List (Nat × Nat × Nat × Nat)}
    (hM : vx_Met l y ws rm Pc Qc XC mc ms free) (hblind : FrameBlind Pc) (hrc : rm.cells = mc) (hrs : rm.slots = ms)
    (hframes : rm.frames + 1 ≤ R.frames) (hlocals : W9 + (maxL + 11) + rm.locals ≤ R.locals)
    (hws : ∀ w ∈ ws, ∀ a' U, s.WarmedH U.vm → w.before a' U = true) (hcode : Cond.codeWith y bytes maxL ret hh ∈ ws) (hinit : ∀ a' U, s.WarmedH U.vm → (Cond.initialized y.cls).before a' U = true) :
    vx_Back l R p e below s sargs y len W9 (PreOf R mc ms Pc) (PostOf Qc mc ms free) (vx_Post XC mc ms free) := by
  intro m meth c A g ig mk a X hg hsize hdg hW hn hp
  have h1 : (headSpec ws rm).pre.before a A.U = true := atoms_intro fun w hw => hws w hw _ _ X.warmed
  have h2 : (Cond.codeWith y bytes maxL ret hh).before a A.U = true := hws _ hcode _ _ X.warmed
  have h3 : (Cond.initialized y.cls).before a A.U = true := hinit _ _ X.warmed
  have h4 : A.cells + (headSpec ws rm).room.cells ≤ R.cells := by rw [show (headSpec ws rm).room.cells = mc from hrc]; exact hp.1
  have h5 : A.slots + (headSpec ws rm).room.slots ≤ R.slots := by rw [show (headSpec ws rm).room.slots = ms from hrs]; exact hp.2.1
  have hPc : Pc a (A.U.calling g mk a) := hblind _ _ _ _ hp.2.2
  obtain ⟨U, Ls, c0, s0⟩ := A
  dsimp only [Pt.U, Pt.locs, Pt.cells, Pt.slots] at h1 h2 h3 h4 h5 X hn hPc ⊢
  obtain ⟨m9, methY, cY, hn9, hmY, hcY, -, hlY, -⟩ := Cond.codeWith_spec h2
  cases Option.some.inj (hn9.symm.trans hn)
  obtain ⟨kY, hkY, -⟩ := className_of_methodNamed hn
  have hinitY : kY.init = .initialized := Cond.initialized_spec (findClass_of_methodNamed hn) hkY h3
  have h : At U g.method c below := by rw [hg]; exact X.here
  have hlocals9 : W9 + (maxL + 11) + (headSpec ws rm).room.locals ≤ R.locals := hlocals
  have happ : (headSpec ws rm).appliesLoose y e.platform (U.calling g mk a) = true :=
    Spec.appliesLoose_calling (g := g) h hdg hn hkY hinitY
      (X.room_calling (g := g) (R' := (headSpec ws rm).room) hsize hmY hcY hframes (by rw [hlY]; omega) h4 h5) h1
  obtain ⟨mid, hmid⟩ := h.above
  have hfr : (U.setTop g).frames = (.java g :: mid) ++ below := by rw [State.frames_setTop' g h.top, hmid]; rfl
  obtain ⟨o, s₂, hsteps, -, hend, hq⟩ := Steps.callFree hM p X.admits X.cas X.clock (acts := []) hfr happ hPc trivial
  have hq' : vx_Q Qc XC mc ms free a (U.calling g mk a) o s₂ := hq
  rw [State.frames_setTop' g h.top] at hend
  obtain ⟨g₀, hg0⟩ := Option.isSome_iff_exists.mp h.top
  obtain ⟨r, hr⟩ := State.topJava?_eq_some.mp hg0
  have hr' : (({ U with heap := s₂.heap, slotsUsed := s₂.slotsUsed } : State).setVm s₂.vm).frames = .java g₀ :: r := hr
  rcases hq' with ⟨hqc, L, hfe, hL⟩ | ⟨q, rfl, E, ce, L, hx, hce, hcv, hcl, hW₂, hsm, hL⟩
  · obtain ⟨⟨v, rfl⟩, hW₂, e2, q2, q3, q4, q5, q6⟩ := id hfe
    have e3 : s₂ = ({ (U.calling g mk a).setFrames s₂.frames with heap := s₂.heap, slotsUsed := s₂.slotsUsed } : State).setVm s₂.vm := by
      have : s₂ = ({ s₂ with vm := (U.calling g mk a).vm } : State).setVm s₂.vm := rfl
      rw [e2] at this
      exact this
    obtain ⟨c₂, i₂, len₂, hc₂, hd₂, hf₂⟩ := hend
    have hW' : U.WarmedH s₂.vm := hW₂
    have hcc : c₂ = c := by
      have h1 : s₂.code? g.method = U.code? g.method := by
        rw [State.code?_eq, State.code?_eq, hW'.alike.method?]
      exact Option.some.inj (hc₂.symm.trans (h1.trans h.code))
    subst hcc
    have hlen : len₂ = len := by rw [hdg] at hd₂; cases hd₂; rfl
    subst hlen
    have hs₂ : s₂ = (({ U with heap := s₂.heap, slotsUsed := s₂.slotsUsed } : State).setVm s₂.vm).setTop { g with pc := g.pc + len₂, stack := v.toList ++ g.stack } := by
      refine e3.trans ?_
      rw [hf₂, State.calling_eq h.top, State.setFrames_setFrames, State.setTop_of_frames _ hr', hr]
      rfl
    have hsame : U.sameButNew ({ U with heap := s₂.heap, slotsUsed := s₂.slotsUsed } : State) L mc ms := by
      refine ⟨?_, q2, q3, q4, q5, q6⟩
      obtain ⟨t, ht, -⟩ := State.frames_cons hr
      show ({ U with heap := s₂.heap, slotsUsed := s₂.slotsUsed } : State) = { U.setFrames U.frames with heap := s₂.heap, slotsUsed := s₂.slotsUsed }
      rw [State.setFrames_self ht]
    subst hg
    refine Or.inl ⟨v, ⟨(({ U with heap := s₂.heap, slotsUsed := s₂.slotsUsed } : State).setVm s₂.vm), Ls ++ L, c0 + mc, s0 + ms⟩,
      ⟨X.admits, X.cas, X.clock, X.frames, X.room, X.hears, X.method, X.code, (X.here.setHeapUsed s₂.heap s₂.slotsUsed).setVm hW'.alike, X.tail, State.WarmedH.trans X.warmed hW', X.limits, X.bytes, X.same.trans (hsame.setVm s.vm)⟩,
      ⟨g, mk, s₂, L, rfl, rfl, hqc, rfl, hL, rfl, rfl⟩, ?_⟩
    show Steps p.tables e below _ ((({ U with heap := s₂.heap, slotsUsed := s₂.slotsUsed } : State).setVm s₂.vm).setTop { g with pc := g.pc + len₂, stack := v.toList ++ g.stack })
    rw [← hs₂]
    exact hsteps
  · obtain ⟨e2, q2, q3, q4, q5, q6⟩ := id hsm
    have e3 : s₂ = ({ (U.calling g mk a).setFrames s₂.frames with heap := s₂.heap, slotsUsed := s₂.slotsUsed } : State).setVm s₂.vm := by
      have : s₂ = ({ s₂ with vm := (U.calling g mk a).vm } : State).setVm s₂.vm := rfl
      rw [e2] at this
      exact this
    have hf₂ : s₂.frames = .throwing q :: .java g :: U.frames.tail := hend
    have hW' : U.WarmedH s₂.vm := hW₂
    have hs₂ : s₂ = ((({ U with heap := s₂.heap, slotsUsed := s₂.slotsUsed } : State).setVm s₂.vm).setTop g).pushFrame (.throwing q) := by
      refine e3.trans ?_
      rw [hf₂, State.calling_eq h.top, State.setFrames_setFrames, State.pushFrame, State.frames_setTop _ hr', State.setTop_of_frames _ hr', State.setFrames_setFrames, hr]
      rfl
    have hsame : U.sameButNew ({ U with heap := s₂.heap, slotsUsed := s₂.slotsUsed } : State) L mc ms := by
      refine ⟨?_, q2, q3, q4, q5, q6⟩
      obtain ⟨t, ht, -⟩ := State.frames_cons hr
      show ({ U with heap := s₂.heap, slotsUsed := s₂.slotsUsed } : State) = { U.setFrames U.frames with heap := s₂.heap, slotsUsed := s₂.slotsUsed }
      rw [State.setFrames_self ht]
    subst hg
    refine Or.inr ⟨q, ⟨(({ U with heap := s₂.heap, slotsUsed := s₂.slotsUsed } : State).setVm s₂.vm), Ls ++ L, c0 + mc, s0 + ms⟩,
      ⟨X.admits, X.cas, X.clock, X.frames, X.room, X.hears, X.method, X.code, (X.here.setHeapUsed s₂.heap s₂.slotsUsed).setVm hW'.alike, X.tail, State.WarmedH.trans X.warmed hW', X.limits, X.bytes, X.same.trans (hsame.setVm s.vm)⟩,
      ⟨g, mk, s₂, L, E, ce, rfl, rfl, hx, hce, hcv, hcl, rfl, hL, rfl, rfl⟩, ?_⟩
    show Steps p.tables e below _ (((({ U with heap := s₂.heap, slotsUsed := s₂.slotsUsed } : State).setVm s₂.vm).setTop g).pushFrame (.throwing q))
    rw [← hs₂]
    exact hsteps
end
variable {p : Program} {l : Launch} {e : Env} {R : Room} {s : State} {m : MethodId} {args : Array Value} {below : List Frame} {meth : Method} {c : Code} {T : State} {H : Heap} {locs : List Loc} {cells slots : Nat}
theorem vx_callVX (X : Stand p l e R s m args below meth c T locs cells slots) (hexec : p.tables.exec = Jvm.exec) {own C : String} {index : Nat} {y : MethodName} {bytes : ByteArray} {maxL : Nat} {ret : Option FieldType} {hh : List (Nat × Nat × Nat × Nat)}
    (hown : s.vm.findClass own = some m.cls) (hlink : (Cond.methodLink own index y).before args s = true) (hinst : (Cond.instanceMethod y).before args s = true) (hsel : (Cond.selects C y y).before args s = true)
    (hcode : (Cond.codeWith y bytes maxL ret hh).before args s = true) (hy : y.cls ≠ "java/lang/invoke/MethodHandle" ∧ y.cls ≠ "java/lang/invoke/VarHandle")
    {W9 : Nat} {Pre : Pt → Array Value → Prop} {Post : Pt → Array Value → Option Value → Pt → Prop} {PostX : Pt → Array Value → Addr → Pt → Prop} (hK : vx_Back l R p e below s args y 3 W9 Pre Post PostX)
    {b : Addr} {cellB : Cell} (hcell : T.heap[b]? = some cellB) (hobj : cellB.vm.isStatics = false) (hcls : s.vm.findClass C = some cellB.cls)
    {g : JFrame} (hg : g.method = m) (hsize : g.locals.size = c.maxLocals) {argsL rest : List Value} (hlen : ∀ sig, parseMethodDescriptor y.desc = some sig → argsL.length = sig.parameters.length)
    (hstack : g.stack = argsL.reverse ++ .ref b :: rest) (hW : 2 * g.monitorRoom + (rest.map fun v => v.category).sum ≤ W9) (hdg : decode c.code g.pc = .ok (.invokevirtual index, 3))
    (hpre : ∀ vm₁, s.WarmedH vm₁ → Pre ⟨T.setVm vm₁, locs, cells, slots⟩ (Value.ref b :: argsL).toArray) :
    (∃ (v : Option Value) (vm₁ : Vm) (B : Pt), s.WarmedH vm₁ ∧ Stand p l e R s m args below meth c B.U B.locs B.cells B.slots ∧ Post ⟨T.setVm vm₁, locs, cells, slots⟩ (Value.ref b :: argsL).toArray v B ∧
      ∀ target, Steps p.tables e below (B.U.setTop { g with pc := g.pc + 3, stack := v.toList ++ rest }) target → Steps p.tables e below (T.setTop g) target) ∨
    (∃ (q : Addr) (vm₁ : Vm) (B : Pt), s.WarmedH vm₁ ∧ Stand p l e R s m args below meth c B.U B.locs B.cells B.slots ∧ PostX ⟨T.setVm vm₁, locs, cells, slots⟩ (Value.ref b :: argsL).toArray q B ∧
      Steps p.tables e below (T.setTop g) ((B.U.setTop { g with stack := rest }).pushFrame (.throwing q))) := by
  obtain ⟨mk, methM, hnamed, hmethM, hstM, habM⟩ := Cond.instanceMethod_spec hinst
  obtain ⟨m8, methM', cM, hn8, hmethM', -, -, -, -, -, -, hsigM⟩ := Cond.codeWith_spec hcode
  cases Option.some.inj (hn8.symm.trans hnamed)
  cases hmethM.symm.trans hmethM'
  obtain ⟨c2, r2, m2, q1, q2, q3, q4, kP, hkP, hkPi⟩ := Cond.selects_spec hsel
  cases hcls.symm.trans q1
  cases (State.methodFound?_of_named hnamed hy).symm.trans q2
  cases hnamed.symm.trans q3
  have hselP : selectMethod e.platform s.vm cellB.cls mk = .method mk := by rw [Launch.admits_selectMethod X.admits]; exact q4
  obtain ⟨vm₁, X₁, hstep₁⟩ := X.invokevirtual hexec hown hlink hnamed hmethM hstM hkP hkPi hy (a := b) (cell := cellB) hcell
    (fun z h => by rw [h] at hobj; cases hobj) hselP hmethM habM hkP hkPi (g := g) hg (argsL := argsL) (rest := rest) (hlen _ hsigM) hstack hdg
  rcases hK m meth c ⟨T.setVm vm₁, locs, cells, slots⟩ { g with stack := rest } (.invokevirtual index) mk (Value.ref b :: argsL).toArray X₁ hg hsize hdg hW (X₁.named hnamed) (hpre vm₁ X₁.warmed) with ⟨v, B, X', hpost, hsteps⟩ | ⟨q, B, X', hpost, hsteps⟩
  · exact Or.inl ⟨v, vm₁, B, X₁.warmed, X', hpost, fun target h => hstep₁ _ fun acts => by rw [doInvoke_state]; exact hsteps.trans h⟩
  · exact Or.inr ⟨q, vm₁, B, X₁.warmed, X', hpost, hstep₁ _ fun acts => by rw [doInvoke_state]; exact hsteps⟩
theorem vx_callSX (X : Stand p l e R s m args below meth c T locs cells slots) (hexec : p.tables.exec = Jvm.exec) {own : String} {index : Nat} {y : MethodName} {bytes : ByteArray} {maxL : Nat} {ret : Option FieldType} {hh : List (Nat × Nat × Nat × Nat)}
    (hown : s.vm.findClass own = some m.cls) (hlink : (Cond.methodLink own index y).before args s = true) (hstat : (Cond.static y).before args s = true) (hinit : (Cond.initialized y.cls).before args s = true)
    (hcode : (Cond.codeWith y bytes maxL ret hh).before args s = true) (hy : y.cls ≠ "java/lang/invoke/MethodHandle" ∧ y.cls ≠ "java/lang/invoke/VarHandle")
    {W9 : Nat} {Pre : Pt → Array Value → Prop} {Post : Pt → Array Value → Option Value → Pt → Prop} {PostX : Pt → Array Value → Addr → Pt → Prop} (hK : vx_Back l R p e below s args y 3 W9 Pre Post PostX)
    {g : JFrame} (hg : g.method = m) (hsize : g.locals.size = c.maxLocals) {argsL rest : List Value} (hlen : ∀ sig, parseMethodDescriptor y.desc = some sig → argsL.length = sig.parameters.length)
    (hstack : g.stack = argsL.reverse ++ rest) (hW : 2 * g.monitorRoom + (rest.map fun v => v.category).sum ≤ W9) (hdg : decode c.code g.pc = .ok (.invokestatic index, 3))
    (hpre : ∀ vm₁, s.WarmedH vm₁ → Pre ⟨T.setVm vm₁, locs, cells, slots⟩ argsL.toArray) :
    (∃ (v : Option Value) (vm₁ : Vm) (B : Pt), s.WarmedH vm₁ ∧ Stand p l e R s m args below meth c B.U B.locs B.cells B.slots ∧ Post ⟨T.setVm vm₁, locs, cells, slots⟩ argsL.toArray v B ∧
      ∀ target, Steps p.tables e below (B.U.setTop { g with pc := g.pc + 3, stack := v.toList ++ rest }) target → Steps p.tables e below (T.setTop g) target) ∨
    (∃ (q : Addr) (vm₁ : Vm) (B : Pt), s.WarmedH vm₁ ∧ Stand p l e R s m args below meth c B.U B.locs B.cells B.slots ∧ PostX ⟨T.setVm vm₁, locs, cells, slots⟩ argsL.toArray q B ∧
      Steps p.tables e below (T.setTop g) ((B.U.setTop { g with stack := rest }).pushFrame (.throwing q))) := by
  obtain ⟨mk, methM, cM, hnamed, hmethM, -, -, -, -, -, -, hsigM⟩ := Cond.codeWith_spec hcode
  have hstatic : methM.isStatic = true := Cond.static_spec hnamed hmethM hstat
  obtain ⟨kP, hkP, -⟩ := className_of_methodNamed hnamed
  have hinitP : kP.init = .initialized := Cond.initialized_spec (findClass_of_methodNamed hnamed) hkP hinit
  obtain ⟨vm₁, X₁, hstep₁⟩ := X.invokestatic hexec hown hlink hnamed hmethM hstatic hkP hinitP hy (g := g) hg (argsL := argsL) (rest := rest) (hlen _ hsigM) hstack hdg
  rcases hK m meth c ⟨T.setVm vm₁, locs, cells, slots⟩ { g with stack := rest } (.invokestatic index) mk argsL.toArray X₁ hg hsize hdg hW (X₁.named hnamed) (hpre vm₁ X₁.warmed) with ⟨v, B, X', hpost, hsteps⟩ | ⟨q, B, X', hpost, hsteps⟩
  · exact Or.inl ⟨v, vm₁, B, X₁.warmed, X', hpost, fun target h => hstep₁ _ fun acts => by rw [doInvoke_state]; exact hsteps.trans h⟩
  · exact Or.inr ⟨q, vm₁, B, X₁.warmed, X', hpost, hstep₁ _ fun acts => by rw [doInvoke_state]; exact hsteps⟩
theorem vx_callVW (X : Stand p l e R s m args below meth c T locs cells slots) (hexec : p.tables.exec = Jvm.exec) {own C : String} {index : Nat} {y : MethodName} {bytes : ByteArray} {maxL : Nat} {ret : Option FieldType} {hh : List (Nat × Nat × Nat × Nat)}
    (hown : s.vm.findClass own = some m.cls) (hlink : (Cond.methodLink own index y).before args s = true) (hinst : (Cond.instanceMethod y).before args s = true) (hsel : (Cond.selects C y y).before args s = true)
    (hcode : (Cond.codeWith y bytes maxL ret hh).before args s = true) (hy : y.cls ≠ "java/lang/invoke/MethodHandle" ∧ y.cls ≠ "java/lang/invoke/VarHandle")
    {W9 : Nat} {Pre : Pt → Array Value → Prop} {Post : Pt → Array Value → Option Value → Pt → Prop} (hK : Back l R p e below s args y 3 W9 Pre Post)
    {b : Addr} {cellB : Cell} (hcell : T.heap[b]? = some cellB) (hobj : cellB.vm.isStatics = false) (hcls : s.vm.findClass C = some cellB.cls)
    {g : JFrame} (hg : g.method = m) (hsize : g.locals.size = c.maxLocals) {argsL rest : List Value} (hlen : ∀ sig, parseMethodDescriptor y.desc = some sig → argsL.length = sig.parameters.length)
    (hstack : g.stack = argsL.reverse ++ .ref b :: rest) (hW : 2 * g.monitorRoom + (rest.map fun v => v.category).sum ≤ W9) (hdg : decode c.code g.pc = .ok (.invokevirtual index, 3))
    (hpre : ∀ vm₁, s.WarmedH vm₁ → Pre ⟨T.setVm vm₁, locs, cells, slots⟩ (Value.ref b :: argsL).toArray) :
    ∃ (v : Option Value) (vm₁ : Vm) (B : Pt), s.WarmedH vm₁ ∧ Stand p l e R s m args below meth c B.U B.locs B.cells B.slots ∧ Post ⟨T.setVm vm₁, locs, cells, slots⟩ (Value.ref b :: argsL).toArray v B ∧
      ∀ target, Steps p.tables e below (B.U.setTop { g with pc := g.pc + 3, stack := v.toList ++ rest }) target → Steps p.tables e below (T.setTop g) target := by
  obtain ⟨mk, methM, hnamed, hmethM, hstM, habM⟩ := Cond.instanceMethod_spec hinst
  obtain ⟨m8, methM', cM, hn8, hmethM', -, -, -, -, -, -, hsigM⟩ := Cond.codeWith_spec hcode
  cases Option.some.inj (hn8.symm.trans hnamed)
  cases hmethM.symm.trans hmethM'
  obtain ⟨c2, r2, m2, q1, q2, q3, q4, kP, hkP, hkPi⟩ := Cond.selects_spec hsel
  cases hcls.symm.trans q1
  cases (State.methodFound?_of_named hnamed hy).symm.trans q2
  cases hnamed.symm.trans q3
  have hselP : selectMethod e.platform s.vm cellB.cls mk = .method mk := by rw [Launch.admits_selectMethod X.admits]; exact q4
  obtain ⟨vm₁, X₁, hstep₁⟩ := X.invokevirtual hexec hown hlink hnamed hmethM hstM hkP hkPi hy (a := b) (cell := cellB) hcell
    (fun z h => by rw [h] at hobj; cases hobj) hselP hmethM habM hkP hkPi (g := g) hg (argsL := argsL) (rest := rest) (hlen _ hsigM) hstack hdg
  obtain ⟨v, B, X', hpost, hsteps⟩ := hK m meth c ⟨T.setVm vm₁, locs, cells, slots⟩ { g with stack := rest } (.invokevirtual index) mk (Value.ref b :: argsL).toArray X₁ hg hsize hdg hW (X₁.named hnamed) (hpre vm₁ X₁.warmed)
  exact ⟨v, vm₁, B, X₁.warmed, X', hpost, fun target h => hstep₁ _ fun acts => by rw [doInvoke_state]; exact hsteps.trans h⟩
abbrev vx_CVW (R : Room) (s : State) (args : Array Value) (own C : String) (index : Nat) (y : MethodName) (bytes : ByteArray) (maxL : Nat) (ret : Option FieldType) (hh : List (Nat × Nat × Nat × Nat)) (ws : List Cond) (rm : Room) (mc ms n : Nat) : Prop :=
  (rm.cells = mc ∧ rm.slots = ms ∧ rm.frames + 1 ≤ R.frames ∧ 8 + (maxL + 11) + rm.locals ≤ R.locals ∧ (∀ w ∈ ws, ∀ (a' : Array Value) (U : State), s.WarmedH U.vm → w.before a' U = true) ∧ Cond.codeWith y bytes maxL ret hh ∈ ws) ∧
  (Cond.codeWith y bytes maxL ret hh).before args s = true ∧ (Cond.initialized y.cls).before args s = true ∧ (y.cls ≠ "java/lang/invoke/MethodHandle" ∧ y.cls ≠ "java/lang/invoke/VarHandle") ∧
  (∀ sig, parseMethodDescriptor y.desc = some sig → n = sig.parameters.length) ∧ (Cond.methodLink own index y).before args s = true ∧ (Cond.instanceMethod y).before args s = true ∧ (Cond.selects C y y).before args s = true
theorem vx_cwVW {own C : String} {index maxL mc ms : Nat} {y : MethodName} {bytes : ByteArray} {ret : Option FieldType} {hh : List (Nat × Nat × Nat × Nat)} {Ts ws ws' : List Cond} {rm : Room} (n : Nat) (ht : ∀ w ∈ Ts, w.before args s = true) (hT : GoodIn Ts (wsV own index C y ws)) (hw : ws = Cond.codeWith y bytes maxL ret hh :: ws') (hrc : rm.cells = mc) (hrs : rm.slots = ms)
    (hd : y.cls = C ∧ y.cls ≠ "java/lang/invoke/MethodHandle" ∧ y.cls ≠ "java/lang/invoke/VarHandle" ∧ (parseMethodDescriptor y.desc).map (fun d => d.parameters.length) = some n) (hR : rm.frames + 1 ≤ R.frames ∧ 8 + (maxL + 11) + rm.locals ≤ R.locals) :
    vx_CVW R s args own C index y bytes maxL ret hh ws rm mc ms n := by
  obtain ⟨hC, hd⟩ := hd
  subst hC
  have ok : ∀ w ∈ wsV own index y.cls y ws, w.before args s = true := fun w h => ht w (hT w h).1
  have hG : GoodIn Ts ws := fun w h => hT w (by unfold wsV; exact List.mem_append_right _ h)
  have hc : Cond.codeWith y bytes maxL ret hh ∈ ws := by rw [hw]; exact List.mem_cons_self
  refine ⟨⟨hrc, hrs, hR.1, hR.2, pay_in ht hG, hc⟩, ht _ (hG _ hc).1, ok _ (by simp [wsV]), ⟨hd.1, hd.2.1⟩, fun sig h => ?_, ok _ (by simp [wsV]), ok _ (by simp [wsV]), ok _ (by simp [wsV])⟩
  have h2 := hd.2.2
  rw [h] at h2
  exact (Option.some.inj h2).symm
theorem vx_runVW {y : MethodName} {bytes cc : ByteArray} {maxL nL mc ms n index : Nat} {ret : Option FieldType} {hh : List (Nat × Nat × Nat × Nat)} {ws : List Cond} {rm : Room} {Pc : Array Value → State → Prop} {Qc : Array Value → State → Outcome → State → Prop} {free : Addr → Prop} {Ts : List Cond} {own C : String} {b : Addr} {As rest : List Value} {g : JFrame}
    (S : CallFix p m c cc nL s args Ts own) (hM : Met l y ws rm Pc Qc mc ms free) (cw : vx_CVW R s args own C index y bytes maxL ret hh ws rm mc ms n) (hp : PreV s H C b Pc As)
    (hg : g.method = m) (hn : As.length = n) (hsize : g.locals.size = nL) (hstack : g.stack = As.reverse ++ .ref b :: rest) (hW : 2 * g.monitorRoom + (rest.map fun v => v.category).sum ≤ 8) (hdg : decode cc g.pc = .ok (.invokevirtual index, 3)) (hf : cells + mc ≤ R.cells ∧ slots + ms ≤ R.slots) :
    va_Run p l e R s m args below meth c H locs cells slots mc ms g rest (Qc (Value.ref b :: As).toArray) free := by
  obtain ⟨⟨hrc, hrs, hfr, hlo, hws, hcw⟩, hcode, hini, hy, hlen, hl, hin, hse⟩ := cw
  have hK : Back l R p e below s args y 3 8 (PreOf R mc ms Pc) (PostOf Qc mc ms free) := va_backW (hh := hh) (bytes := bytes) (maxL := maxL) (ret := ret) hM hp.1 hrc hrs hfr hlo hws hcw (fun a' U hW => word_at hW (Or.inl (by first | rfl | simp [Cond.onTables, Cond.keeps, Cond.steady])) hini)
  obtain ⟨hx, hb, hml, ho, -⟩ := S
  obtain ⟨-, ⟨cellB, hcB, hoB, hclB⟩, hPc⟩ := hp
  intro T hT X
  obtain ⟨v, vm₁, ⟨U', l2, c2, s2⟩, hW₁, X', ⟨g', mk, t, L, e1, e2, hq, h1, hL, h2, h3⟩, st⟩ := vx_callVW X hx (C := C) (hh := hh) (bytes := bytes) (maxL := maxL) (ret := ret) ho hl hin hse hcode hy hK (by rw [hT]; exact hcB) hoB hclB hg (hsize.trans hml.symm) (argsL := As) (rest := rest) (fun sig h => hn.trans (hlen sig h)) hstack hW (by rw [hb]; exact hdg)
    (fun vm₁ hW₁ => ⟨hf.1, hf.2, hPc (T.setVm vm₁) hT hW₁⟩)
  dsimp only [Pt.U, Pt.locs, Pt.cells, Pt.slots] at X' e1 e2 h1 h2 h3 st
  subst h1; subst h2; subst h3
  exact ⟨v, (T.setVm vm₁).calling g' mk (Value.ref b :: As).toArray, t, U', L, hT, X', hL, e1, e2, hq, st⟩
section
variable {y : MethodName} {bytes cc : ByteArray} {maxL nL mc ms n index : Nat} {ret : Option FieldType} {ws : List Cond} {rm : Room} {Pc : Array Value → State → Prop} {Qc : Array Value → State → Outcome → State → Prop} {XC : String → State → State → Prop} {free : Addr → Prop} {Ts : List Cond} {own C : String} {b : Addr} {As rest : List Value} {g : JFrame}
theorem vx_runVX {hh : List (Nat × Nat × Nat × Nat)} (S : CallFix p m c cc nL s args Ts own) (hM : vx_Met l y ws rm Pc Qc XC mc ms free) (cw : vx_CVW R s args own C index y bytes maxL ret hh ws rm mc ms n) (hp : PreV s H C b Pc As)
    (hg : g.method = m) (hn : As.length = n) (hsize : g.locals.size = nL) (hstack : g.stack = As.reverse ++ .ref b :: rest) (hW : 2 * g.monitorRoom + (rest.map fun v => v.category).sum ≤ 8) (hdg : decode cc g.pc = .ok (.invokevirtual index, 3)) (hf : cells + mc ≤ R.cells ∧ slots + ms ≤ R.slots) :
    vx_Run p l e R s m args below meth c H locs cells slots mc ms g rest (Qc (Value.ref b :: As).toArray) XC free := by
  obtain ⟨⟨hrc, hrs, hfr, hlo, hws, hcw⟩, hcode, hini, hy, hlen, hl, hin, hse⟩ := cw
  have hK : vx_Back l R p e below s args y 3 8 (PreOf R mc ms Pc) (PostOf Qc mc ms free) (vx_Post XC mc ms free) := vx_backW (hh := hh) (bytes := bytes) (maxL := maxL) (ret := ret) hM hp.1 hrc hrs hfr hlo hws hcw (fun a' U hW => word_at hW (Or.inl (by first | rfl | simp [Cond.onTables, Cond.keeps, Cond.steady])) hini)
  obtain ⟨hx, hb, hml, ho, -⟩ := S
  obtain ⟨-, ⟨cellB, hcB, hoB, hclB⟩, hPc⟩ := hp
  intro T hT X
  rcases vx_callVX X hx (C := C) (hh := hh) (bytes := bytes) (maxL := maxL) (ret := ret) ho hl hin hse hcode hy hK (by rw [hT]; exact hcB) hoB hclB hg (hsize.trans hml.symm) (argsL := As) (rest := rest) (fun sig h => hn.trans (hlen sig h)) hstack hW (by rw [hb]; exact hdg)
    (fun vm₁ hW₁ => ⟨hf.1, hf.2, hPc (T.setVm vm₁) hT hW₁⟩) with ⟨v, vm₁, ⟨U', l2, c2, s2⟩, hW₁, X', ⟨g', mk, t, L, e1, e2, hq, h1, hL, h2, h3⟩, st⟩ | ⟨q, vm₁, ⟨U', l2, c2, s2⟩, hW₁, X', ⟨g', mk, t, L, E, ce, e1, e2, hq, hce, hcv, hcl, h1, hL, h2, h3⟩, st⟩
  · dsimp only [Pt.U, Pt.locs, Pt.cells, Pt.slots] at X' e1 e2 h1 h2 h3 st
    subst h1; subst h2; subst h3
    exact Or.inl ⟨v, (T.setVm vm₁).calling g' mk (Value.ref b :: As).toArray, t, U', L, hT, X', hL, e1, e2, hq, st⟩
  · dsimp only [Pt.U, Pt.locs, Pt.cells, Pt.slots] at X' e1 e2 h1 h2 h3 st hcl
    subst h1; subst h2; subst h3
    exact Or.inr ⟨q, (T.setVm vm₁).calling g' mk (Value.ref b :: As).toArray, t, U', L, E, ce, hT, X', hL, e1, e2, hq, hce, hcv, vx_cls hW₁ hcl, st⟩
theorem vx_runSX {hh : List (Nat × Nat × Nat × Nat)} (S : CallFix p m c cc nL s args Ts own) (hM : vx_Met l y ws rm Pc Qc XC mc ms free) (cw : vx_CSW R s args own index y bytes maxL ret hh ws rm mc ms n) (hp : PreS s H Pc As)
    (hg : g.method = m) (hn : As.length = n) (hsize : g.locals.size = nL) (hstack : g.stack = As.reverse ++ rest) (hW : 2 * g.monitorRoom + (rest.map fun v => v.category).sum ≤ 8) (hdg : decode cc g.pc = .ok (.invokestatic index, 3)) (hf : cells + mc ≤ R.cells ∧ slots + ms ≤ R.slots) :
    vx_Run p l e R s m args below meth c H locs cells slots mc ms g rest (Qc As.toArray) XC free := by
  obtain ⟨⟨hrc, hrs, hfr, hlo, hws, hcw⟩, hcode, hini, hy, hlen, hl, hstt⟩ := cw
  have hK : vx_Back l R p e below s args y 3 8 (PreOf R mc ms Pc) (PostOf Qc mc ms free) (vx_Post XC mc ms free) := vx_backW (hh := hh) (bytes := bytes) (maxL := maxL) (ret := ret) hM hp.1 hrc hrs hfr hlo hws hcw (fun a' U hW => word_at hW (Or.inl (by first | rfl | simp [Cond.onTables, Cond.keeps, Cond.steady])) hini)
  obtain ⟨hx, hb, hml, ho, -⟩ := S
  intro T hT X
  rcases vx_callSX X hx (hh := hh) (bytes := bytes) (maxL := maxL) (ret := ret) ho hl hstt hini hcode hy hK hg (hsize.trans hml.symm) (argsL := As) (rest := rest) (fun sig h => hn.trans (hlen sig h)) hstack hW (by rw [hb]; exact hdg)
    (fun vm₁ hW₁ => ⟨hf.1, hf.2, hp.2 (T.setVm vm₁) hT hW₁⟩) with ⟨v, vm₁, ⟨U', l2, c2, s2⟩, hW₁, X', ⟨g', mk, t, L, e1, e2, hq, h1, hL, h2, h3⟩, st⟩ | ⟨q, vm₁, ⟨U', l2, c2, s2⟩, hW₁, X', ⟨g', mk, t, L, E, ce, e1, e2, hq, hce, hcv, hcl, h1, hL, h2, h3⟩, st⟩
  · dsimp only [Pt.U, Pt.locs, Pt.cells, Pt.slots] at X' e1 e2 h1 h2 h3 st
    subst h1; subst h2; subst h3
    exact Or.inl ⟨v, (T.setVm vm₁).calling g' mk As.toArray, t, U', L, hT, X', hL, e1, e2, hq, st⟩
  · dsimp only [Pt.U, Pt.locs, Pt.cells, Pt.slots] at X' e1 e2 h1 h2 h3 st hcl
    subst h1; subst h2; subst h3
    exact Or.inr ⟨q, (T.setVm vm₁).calling g' mk As.toArray, t, U', L, E, ce, hT, X', hL, e1, e2, hq, hce, hcv, vx_cls hW₁ hcl, st⟩
end
end VXH
theorem vx_ofWH {l : Launch} {y : MethodName} {ws ws' : List Cond} {rm : Room} {Pc : Array Value → State → Prop} {Qc : Array Value → State → Outcome → State → Prop} {XC : String → State → State → Prop} {mc ms : Nat} {free : Addr → Prop} {cc : ByteArray} {maxL : Nat} {ret : Option FieldType} {hh : List (Nat × Nat × Nat × Nat)}
    (hy : plainName y.cls = true) (hw : ws = Cond.codeWith y cc maxL ret hh :: ws')
    (body : ∀ p e s m args below meth c s₁, BodyLoose p l y (headSpec ws rm) cc maxL ret e s m args below meth c s₁ → c.maxLocals = maxL → Pc args s →
      W p l e (headSpec ws rm).room s m args below meth c s.heap [] 0 0 (vx_MQ below Qc XC args s mc ms free) (entryFrame m args maxL)) : vx_Met l y ws rm Pc Qc XC mc ms free := by
  refine MetFree.of_bodyS (code := cc) (maxLocals := maxL) (ret := ret) hy ?_ ?_
  · intro args s m h hn
    obtain ⟨m9, meth, c, hn9, h1, h2, h3, h4, -, h5, h6, -⟩ := Cond.codeWith_spec (atoms_spec (ws := ws) h _ (by rw [hw]; exact List.mem_cons_self))
    cases hn.symm.trans hn9
    exact ⟨meth, c, h1, h2, h3, h4, h5, h6⟩
  · intro p e s m args below meth c s₁ B hml hP _
    have hh0 : s₁.heap = s.heap := by rw [B.state]; rfl
    obtain ⟨t, a1, o, b1, b2, b3⟩ := body p e s m args below meth c s₁ B hml hP s₁ hh0 (Stand.of_body B)
    exact ⟨t, o, a1, b1, b2, b3⟩
/-! ===== END ===== -/
end
section
/-! ===== BEGIN printed: names, fields, word lists, decode rows ===== -/
def RX0 : String := "TokenReader$Binaries"
def TX0 : u_T := fun k => match k with
  | _ => ("TokenReader$Binaries", "bytes", "LTokenReader$Bytes;", true)
def tyX0 : Nat → FieldType := fun k => match k with
  | _ => .object "TokenReader$Bytes"
abbrev wsX00 : List Cond := u_ws RX0 TX0 1
theorem nmX0 : ∀ a, a < 1 → ∀ b, b < 1 → a ≠ b → (TX0 a).2.1 ≠ (TX0 b).2.1 := by decide +kernel
theorem tyX0_ok : ∀ k, k < 1 → parseFieldDescriptor (TX0 k).2.2.1 = some (tyX0 k) := by decide +kernel
abbrev cX0_init : ByteArray := prog_2_method_1_code
def yX0_init : MethodName := ⟨RX0, "<init>", "(LTokenReader$Bytes;)V"⟩
abbrev cX0_readBinary : ByteArray := prog_2_method_2_code
def yX0_readBinary : MethodName := ⟨RX0, "readBinary", "(LTokenReader$Token;I)I"⟩
abbrev cX0_reaches : ByteArray := prog_2_method_3_code
def yX0_reaches : MethodName := ⟨RX0, "reaches", "(LTokenReader$Token;I)Z"⟩
abbrev cX0_readNumber : ByteArray := prog_2_method_4_code
def yX0_readNumber : MethodName := ⟨RX0, "readNumber", "(LTokenReader$Token;IZ)I"⟩
abbrev cX0_readFixed : ByteArray := prog_2_method_5_code
def yX0_readFixed : MethodName := ⟨RX0, "readFixed", "(LTokenReader$Token;)I"⟩
abbrev cX0_readFloat : ByteArray := prog_2_method_6_code
def yX0_readFloat : MethodName := ⟨RX0, "readFloat", "(LTokenReader$Token;Z)I"⟩
abbrev cX0_readTruth : ByteArray := prog_2_method_7_code
def yX0_readTruth : MethodName := ⟨RX0, "readTruth", "(LTokenReader$Token;)I"⟩
abbrev cX0_readNumbered : ByteArray := prog_2_method_8_code
def yX0_readNumbered : MethodName := ⟨RX0, "readNumbered", "(LTokenReader$Token;I)I"⟩
abbrev cX0_readString : ByteArray := prog_2_method_9_code
def yX0_readString : MethodName := ⟨RX0, "readString", "(LTokenReader$Token;IZ)I"⟩
abbrev cX0_readRow : ByteArray := prog_2_method_10_code
def yX0_readRow : MethodName := ⟨RX0, "readRow", "(LTokenReader$Token;)I"⟩
abbrev cX0_fillRow : ByteArray := prog_2_method_11_code
def yX0_fillRow : MethodName := ⟨RX0, "fillRow", "(LTokenReader$Token;III)I"⟩
abbrev cX0_widthOf : ByteArray := prog_2_method_12_code
def yX0_widthOf : MethodName := ⟨RX0, "widthOf", "(I)I"⟩
abbrev cX0_fixedValue : ByteArray := prog_2_method_13_code
def yX0_fixedValue : MethodName := ⟨RX0, "fixedValue", "(II)D"⟩
abbrev cX0_isFinite : ByteArray := prog_2_method_14_code
def yX0_isFinite : MethodName := ⟨RX0, "isFinite", "(I)Z"⟩
abbrev cX0_floatValue : ByteArray := prog_2_method_15_code
def yX0_floatValue : MethodName := ⟨RX0, "floatValue", "(I)D"⟩
abbrev cX0_countAt : ByteArray := prog_2_method_16_code
def yX0_countAt : MethodName := ⟨RX0, "countAt", "(IIZ)I"⟩
abbrev cX0_signedAt : ByteArray := prog_2_method_17_code
def yX0_signedAt : MethodName := ⟨RX0, "signedAt", "(IIZ)I"⟩
def RX1 : String := "TokenReader$Bytes"
def TX1 : u_T := fun k => match k with
  | 0 => ("TokenReader$Bytes", "came", "[B", true)
  | 1 => ("TokenReader$Bytes", "count", "I", false)
  | 2 => ("TokenReader$Bytes", "read", "I", false)
  | _ => ("TokenReader$Bytes", "ended", "Z", false)
def tyX1 : Nat → FieldType := fun k => match k with
  | 0 => .array .byte
  | 1 => .int
  | 2 => .int
  | _ => .boolean
abbrev wsX10 : List Cond := u_ws RX1 TX1 4
theorem nmX1 : ∀ a, a < 4 → ∀ b, b < 4 → a ≠ b → (TX1 a).2.1 ≠ (TX1 b).2.1 := by decide +kernel
theorem tyX1_ok : ∀ k, k < 4 → parseFieldDescriptor (TX1 k).2.2.1 = some (tyX1 k) := by decide +kernel
abbrev cX1_init : ByteArray := prog_3_method_1_code
def yX1_init : MethodName := ⟨RX1, "<init>", "()V"⟩
abbrev cX1_append : ByteArray := prog_3_method_2_code
def yX1_append : MethodName := ⟨RX1, "append", "(B)Z"⟩
abbrev cX1_forget : ByteArray := prog_3_method_3_code
def yX1_forget : MethodName := ⟨RX1, "forget", "()V"⟩
abbrev cX1_has : ByteArray := prog_3_method_4_code
def yX1_has : MethodName := ⟨RX1, "has", "(I)Z"⟩
abbrev cX1_at : ByteArray := prog_3_method_5_code
def yX1_at : MethodName := ⟨RX1, "at", "(I)I"⟩
abbrev cX1_firstNotWhite : ByteArray := prog_3_method_6_code
def yX1_firstNotWhite : MethodName := ⟨RX1, "firstNotWhite", "()I"⟩
abbrev cX1_wordEnd : ByteArray := prog_3_method_7_code
def yX1_wordEnd : MethodName := ⟨RX1, "wordEnd", "(I)I"⟩
abbrev cX1_lacking : ByteArray := prog_3_method_8_code
def yX1_lacking : MethodName := ⟨RX1, "lacking", "(LTokenReader$Token;)I"⟩
abbrev cX1_isWhite : ByteArray := prog_3_method_9_code
def yX1_isWhite : MethodName := ⟨RX1, "isWhite", "(I)Z"⟩
abbrev cX1_isOwn : ByteArray := prog_3_method_10_code
def yX1_isOwn : MethodName := ⟨RX1, "isOwn", "(I)Z"⟩
abbrev cX1_isPlain : ByteArray := prog_3_method_11_code
def yX1_isPlain : MethodName := ⟨RX1, "isPlain", "(I)Z"⟩
def RX2 : String := "TokenReader$Strings"
def TX2 : u_T := fun k => match k with
  | _ => ("TokenReader$Strings", "bytes", "LTokenReader$Bytes;", true)
def tyX2 : Nat → FieldType := fun k => match k with
  | _ => .object "TokenReader$Bytes"
abbrev wsX20 : List Cond := u_ws RX2 TX2 1
theorem nmX2 : ∀ a, a < 1 → ∀ b, b < 1 → a ≠ b → (TX2 a).2.1 ≠ (TX2 b).2.1 := by decide +kernel
theorem tyX2_ok : ∀ k, k < 1 → parseFieldDescriptor (TX2 k).2.2.1 = some (tyX2 k) := by decide +kernel
abbrev cX2_init : ByteArray := prog_4_method_1_code
def yX2_init : MethodName := ⟨RX2, "<init>", "(LTokenReader$Bytes;)V"⟩
abbrev cX2_readRound : ByteArray := prog_4_method_2_code
def yX2_readRound : MethodName := ⟨RX2, "readRound", "(LTokenReader$Token;)I"⟩
abbrev cX2_putOne : ByteArray := prog_4_method_3_code
def yX2_putOne : MethodName := ⟨RX2, "putOne", "(LTokenReader$Token;II)I"⟩
abbrev cX2_putEscaped : ByteArray := prog_4_method_4_code
def yX2_putEscaped : MethodName := ⟨RX2, "putEscaped", "(LTokenReader$Token;I)I"⟩
abbrev cX2_lineEndWidth : ByteArray := prog_4_method_5_code
def yX2_lineEndWidth : MethodName := ⟨RX2, "lineEndWidth", "(I)I"⟩
abbrev cX2_octalWidth : ByteArray := prog_4_method_6_code
def yX2_octalWidth : MethodName := ⟨RX2, "octalWidth", "(I)I"⟩
abbrev cX2_octalAt : ByteArray := prog_4_method_7_code
def yX2_octalAt : MethodName := ⟨RX2, "octalAt", "(II)I"⟩
abbrev cX2_escaped : ByteArray := prog_4_method_8_code
def yX2_escaped : MethodName := ⟨RX2, "escaped", "(I)I"⟩
abbrev cX2_readBase16 : ByteArray := prog_4_method_9_code
def yX2_readBase16 : MethodName := ⟨RX2, "readBase16", "(LTokenReader$Token;)I"⟩
abbrev cX2_putLastAlone : ByteArray := prog_4_method_10_code
def yX2_putLastAlone : MethodName := ⟨RX2, "putLastAlone", "(LTokenReader$Token;I)V"⟩
abbrev cX2_readBase85 : ByteArray := prog_4_method_11_code
def yX2_readBase85 : MethodName := ⟨RX2, "readBase85", "(LTokenReader$Token;)I"⟩
abbrev cX2_endBase85 : ByteArray := prog_4_method_12_code
def yX2_endBase85 : MethodName := ⟨RX2, "endBase85", "(LTokenReader$Token;IJI)I"⟩
abbrev cX2_putHighest : ByteArray := prog_4_method_13_code
def yX2_putHighest : MethodName := ⟨RX2, "putHighest", "(LTokenReader$Token;JI)V"⟩
abbrev cX2_wholeString : ByteArray := prog_4_method_14_code
def yX2_wholeString : MethodName := ⟨RX2, "wholeString", "(LTokenReader$Token;I)I"⟩
def RX3 : String := "TokenReader$Token"
def TX3 : u_T := fun k => match k with
  | 0 => ("TokenReader$Token", "place", "I", false)
  | 1 => ("TokenReader$Token", "after", "I", false)
  | 2 => ("TokenReader$Token", "wholeValue", "J", false)
  | 3 => ("TokenReader$Token", "realValue", "D", false)
  | 4 => ("TokenReader$Token", "text", "[B", true)
  | 5 => ("TokenReader$Token", "length", "I", false)
  | 6 => ("TokenReader$Token", "rowNumbers", "[I", true)
  | 7 => ("TokenReader$Token", "rowReals", "[D", true)
  | 8 => ("TokenReader$Token", "rowOfReals", "Z", false)
  | _ => ("TokenReader$Token", "rowLength", "I", false)
def tyX3 : Nat → FieldType := fun k => match k with
  | 0 => .int
  | 1 => .int
  | 2 => .long
  | 3 => .double
  | 4 => .array .byte
  | 5 => .int
  | 6 => .array .int
  | 7 => .array .double
  | 8 => .boolean
  | _ => .int
abbrev wsX30 : List Cond := u_ws RX3 TX3 10
theorem nmX3 : ∀ a, a < 10 → ∀ b, b < 10 → a ≠ b → (TX3 a).2.1 ≠ (TX3 b).2.1 := by decide +kernel
theorem tyX3_ok : ∀ k, k < 10 → parseFieldDescriptor (TX3 k).2.2.1 = some (tyX3 k) := by decide +kernel
abbrev cX3_init : ByteArray := prog_5_method_1_code
def yX3_init : MethodName := ⟨RX3, "<init>", "()V"⟩
abbrev cX3_startAt : ByteArray := prog_5_method_2_code
def yX3_startAt : MethodName := ⟨RX3, "startAt", "(I)V"⟩
abbrev cX3_put : ByteArray := prog_5_method_3_code
def yX3_put : MethodName := ⟨RX3, "put", "(I)V"⟩
abbrev cX3_textAt : ByteArray := prog_5_method_4_code
def yX3_textAt : MethodName := ⟨RX3, "textAt", "(I)I"⟩
abbrev cX3_asText : ByteArray := prog_5_method_5_code
def yX3_asText : MethodName := ⟨RX3, "asText", "(II)I"⟩
abbrev cX3_asWhole : ByteArray := prog_5_method_6_code
def yX3_asWhole : MethodName := ⟨RX3, "asWhole", "(IJ)I"⟩
abbrev cX3_asReal : ByteArray := prog_5_method_7_code
def yX3_asReal : MethodName := ⟨RX3, "asReal", "(D)I"⟩
abbrev cX3_putInRow : ByteArray := prog_5_method_8_code
def yX3_putInRow : MethodName := ⟨RX3, "putInRow", "(ID)V"⟩
abbrev cX3_hasInRow : ByteArray := prog_5_method_9_code
def yX3_hasInRow : MethodName := ⟨RX3, "hasInRow", "(I)Z"⟩
abbrev cX3_wrongByte : ByteArray := prog_5_method_10_code
def yX3_wrongByte : MethodName := ⟨RX3, "wrongByte", "(II)I"⟩
def RX4 : String := "TokenReader$Words"
def TX4 : u_T := fun k => match k with
  | 0 => ("TokenReader$Words", "bytes", "LTokenReader$Bytes;", true)
  | _ => ("TokenReader$Words", "latestBase", "I", false)
def tyX4 : Nat → FieldType := fun k => match k with
  | 0 => .object "TokenReader$Bytes"
  | _ => .int
abbrev wsX40 : List Cond := u_ws RX4 TX4 2
theorem nmX4 : ∀ a, a < 2 → ∀ b, b < 2 → a ≠ b → (TX4 a).2.1 ≠ (TX4 b).2.1 := by decide +kernel
theorem tyX4_ok : ∀ k, k < 2 → parseFieldDescriptor (TX4 k).2.2.1 = some (tyX4 k) := by decide +kernel
abbrev cX4_init : ByteArray := prog_6_method_1_code
def yX4_init : MethodName := ⟨RX4, "<init>", "(LTokenReader$Bytes;)V"⟩
abbrev cX4_readSlashed : ByteArray := prog_6_method_2_code
def yX4_readSlashed : MethodName := ⟨RX4, "readSlashed", "(LTokenReader$Token;)I"⟩
abbrev cX4_readWord : ByteArray := prog_6_method_3_code
def yX4_readWord : MethodName := ⟨RX4, "readWord", "(LTokenReader$Token;)I"⟩
abbrev cX4_readText : ByteArray := prog_6_method_4_code
def yX4_readText : MethodName := ⟨RX4, "readText", "(LTokenReader$Token;II)I"⟩
abbrev cX4_readInteger : ByteArray := prog_6_method_5_code
def yX4_readInteger : MethodName := ⟨RX4, "readInteger", "(LTokenReader$Token;)I"⟩
abbrev cX4_readWithBase : ByteArray := prog_6_method_6_code
def yX4_readWithBase : MethodName := ⟨RX4, "readWithBase", "(LTokenReader$Token;)I"⟩
abbrev cX4_readReal : ByteArray := prog_6_method_7_code
def yX4_readReal : MethodName := ⟨RX4, "readReal", "(LTokenReader$Token;)I"⟩
abbrev cX4_isExponent : ByteArray := prog_6_method_8_code
def yX4_isExponent : MethodName := ⟨RX4, "isExponent", "(LTokenReader$Token;I)Z"⟩
abbrev cX4_exponentAt : ByteArray := prog_6_method_9_code
def yX4_exponentAt : MethodName := ⟨RX4, "exponentAt", "(LTokenReader$Token;I)I"⟩
abbrev cX4_digitsAsReal : ByteArray := prog_6_method_10_code
def yX4_digitsAsReal : MethodName := ⟨RX4, "digitsAsReal", "(LTokenReader$Token;II)D"⟩
abbrev cX4_behindSign : ByteArray := prog_6_method_11_code
def yX4_behindSign : MethodName := ⟨RX4, "behindSign", "(LTokenReader$Token;I)I"⟩
abbrev cX4_digitsEnd : ByteArray := prog_6_method_12_code
def yX4_digitsEnd : MethodName := ⟨RX4, "digitsEnd", "(LTokenReader$Token;II)I"⟩
abbrev cX4_valueOf : ByteArray := prog_6_method_13_code
def yX4_valueOf : MethodName := ⟨RX4, "valueOf", "(LTokenReader$Token;III)J"⟩
def RX5 : String := "TokenReader"
def TX5 : u_T := fun k => match k with
  | 0 => ("TokenReader", "bytes", "LTokenReader$Bytes;", true)
  | 1 => ("TokenReader", "words", "LTokenReader$Words;", true)
  | 2 => ("TokenReader", "strings", "LTokenReader$Strings;", true)
  | 3 => ("TokenReader", "binaries", "LTokenReader$Binaries;", true)
  | 4 => ("TokenReader", "bracePlaces", "[I", true)
  | 5 => ("TokenReader", "braces", "I", false)
  | 6 => ("TokenReader", "latest", "LTokenReader$Token;", false)
  | 7 => ("TokenReader", "draft", "LTokenReader$Token;", false)
  | _ => ("TokenReader", "latestPlace", "I", false)
def tyX5 : Nat → FieldType := fun k => match k with
  | 0 => .object "TokenReader$Bytes"
  | 1 => .object "TokenReader$Words"
  | 2 => .object "TokenReader$Strings"
  | 3 => .object "TokenReader$Binaries"
  | 4 => .array .int
  | 5 => .int
  | 6 => .object "TokenReader$Token"
  | 7 => .object "TokenReader$Token"
  | _ => .int
abbrev wsX50 : List Cond := u_ws RX5 TX5 9
theorem nmX5 : ∀ a, a < 9 → ∀ b, b < 9 → a ≠ b → (TX5 a).2.1 ≠ (TX5 b).2.1 := by decide +kernel
theorem tyX5_ok : ∀ k, k < 9 → parseFieldDescriptor (TX5 k).2.2.1 = some (tyX5 k) := by decide +kernel
abbrev cX5_init : ByteArray := prog_1_method_1_code
def yX5_init : MethodName := ⟨RX5, "<init>", "()V"⟩
abbrev cX5_add : ByteArray := prog_1_method_2_code
def yX5_add : MethodName := ⟨RX5, "add", "(B)I"⟩
abbrev cX5_end : ByteArray := prog_1_method_3_code
def yX5_end : MethodName := ⟨RX5, "end", "()I"⟩
abbrev cX5_next : ByteArray := prog_1_method_4_code
def yX5_next : MethodName := ⟨RX5, "next", "()I"⟩
abbrev cX5_whole : ByteArray := prog_1_method_5_code
def yX5_whole : MethodName := ⟨RX5, "whole", "()J"⟩
abbrev cX5_real : ByteArray := prog_1_method_6_code
def yX5_real : MethodName := ⟨RX5, "real", "()D"⟩
abbrev cX5_sign : ByteArray := prog_1_method_7_code
def yX5_sign : MethodName := ⟨RX5, "sign", "(I)I"⟩
abbrev cX5_binary : ByteArray := prog_1_method_8_code
def yX5_binary : MethodName := ⟨RX5, "binary", "(II)I"⟩
abbrev cX5_binaryReal : ByteArray := prog_1_method_9_code
def yX5_binaryReal : MethodName := ⟨RX5, "binaryReal", "(I)D"⟩
abbrev cX5_place : ByteArray := prog_1_method_10_code
def yX5_place : MethodName := ⟨RX5, "place", "()I"⟩
abbrev cX5_base : ByteArray := prog_1_method_11_code
def yX5_base : MethodName := ⟨RX5, "base", "()I"⟩
abbrev cX5_depth : ByteArray := prog_1_method_12_code
def yX5_depth : MethodName := ⟨RX5, "depth", "()I"⟩
abbrev cX5_octet : ByteArray := prog_1_method_13_code
def yX5_octet : MethodName := ⟨RX5, "octet", "(I)B"⟩
abbrev cX5_clear : ByteArray := prog_1_method_14_code
def yX5_clear : MethodName := ⟨RX5, "clear", "()V"⟩
abbrev cX5_keepDraft : ByteArray := prog_1_method_15_code
def yX5_keepDraft : MethodName := ⟨RX5, "keepDraft", "()V"⟩
abbrev cX5_nothingFollows : ByteArray := prog_1_method_16_code
def yX5_nothingFollows : MethodName := ⟨RX5, "nothingFollows", "()I"⟩
abbrev cX5_readToken : ByteArray := prog_1_method_17_code
def yX5_readToken : MethodName := ⟨RX5, "readToken", "(I)I"⟩
abbrev cX5_readLess : ByteArray := prog_1_method_18_code
def yX5_readLess : MethodName := ⟨RX5, "readLess", "()I"⟩
abbrev cX5_readGreater : ByteArray := prog_1_method_19_code
def yX5_readGreater : MethodName := ⟨RX5, "readGreater", "()I"⟩
abbrev cX5_pairMark : ByteArray := prog_1_method_20_code
def yX5_pairMark : MethodName := ⟨RX5, "pairMark", "(I)I"⟩
abbrev cX5_openBrace : ByteArray := prog_1_method_21_code
def yX5_openBrace : MethodName := ⟨RX5, "openBrace", "()I"⟩
abbrev cX5_closeBrace : ByteArray := prog_1_method_22_code
def yX5_closeBrace : MethodName := ⟨RX5, "closeBrace", "()I"⟩
abbrev cX5_digitOf : ByteArray := prog_1_method_23_code
def yX5_digitOf : MethodName := ⟨RX5, "digitOf", "(I)I"⟩
abbrev cX5_scaled : ByteArray := prog_1_method_24_code
def yX5_scaled : MethodName := ⟨RX5, "scaled", "(DDI)D"⟩
def RX6 : String := "TokenReaderModel"
def TX6 : u_T := fun k => match k with
  | 0 => ("TokenReaderModel", "thrown", "I", false)
  | 1 => ("TokenReaderModel", "size", "I", false)
  | 2 => ("TokenReaderModel", "bytes", "[B", true)
  | 3 => ("TokenReaderModel", "ended", "Z", false)
  | 4 => ("TokenReaderModel", "done", "I", false)
  | 5 => ("TokenReaderModel", "at", "I", false)
  | 6 => ("TokenReaderModel", "depth", "I", false)
  | 7 => ("TokenReaderModel", "opened", "[I", true)
  | 8 => ("TokenReaderModel", "kind", "I", false)
  | 9 => ("TokenReaderModel", "whole", "J", false)
  | 10 => ("TokenReaderModel", "real", "D", false)
  | 11 => ("TokenReaderModel", "place", "I", false)
  | 12 => ("TokenReaderModel", "base", "I", false)
  | 13 => ("TokenReaderModel", "signs", "I", false)
  | 14 => ("TokenReaderModel", "text", "[B", true)
  | 15 => ("TokenReaderModel", "row", "I", false)
  | 16 => ("TokenReaderModel", "rowIsReal", "Z", false)
  | 17 => ("TokenReaderModel", "ints", "[I", true)
  | 18 => ("TokenReaderModel", "reals", "[D", true)
  | 19 => ("TokenReaderModel", "newPlace", "I", false)
  | 20 => ("TokenReaderModel", "newWhole", "J", false)
  | 21 => ("TokenReaderModel", "newReal", "D", false)
  | 22 => ("TokenReaderModel", "newBase", "I", false)
  | 23 => ("TokenReaderModel", "newSigns", "I", false)
  | 24 => ("TokenReaderModel", "newText", "[B", true)
  | 25 => ("TokenReaderModel", "newRow", "I", false)
  | 26 => ("TokenReaderModel", "newIsReal", "Z", false)
  | 27 => ("TokenReaderModel", "newInts", "[I", true)
  | 28 => ("TokenReaderModel", "newReals", "[D", true)
  | _ => ("TokenReaderModel", "infinite", "Z", false)
def tyX6 : Nat → FieldType := fun k => match k with
  | 0 => .int
  | 1 => .int
  | 2 => .array .byte
  | 3 => .boolean
  | 4 => .int
  | 5 => .int
  | 6 => .int
  | 7 => .array .int
  | 8 => .int
  | 9 => .long
  | 10 => .double
  | 11 => .int
  | 12 => .int
  | 13 => .int
  | 14 => .array .byte
  | 15 => .int
  | 16 => .boolean
  | 17 => .array .int
  | 18 => .array .double
  | 19 => .int
  | 20 => .long
  | 21 => .double
  | 22 => .int
  | 23 => .int
  | 24 => .array .byte
  | 25 => .int
  | 26 => .boolean
  | 27 => .array .int
  | 28 => .array .double
  | _ => .boolean
abbrev wsX60 : List Cond := u_ws RX6 TX6 30
theorem nmX6 : ∀ a, a < 30 → ∀ b, b < 30 → a ≠ b → (TX6 a).2.1 ≠ (TX6 b).2.1 := by decide +kernel
theorem tyX6_ok : ∀ k, k < 30 → parseFieldDescriptor (TX6 k).2.2.1 = some (tyX6 k) := by decide +kernel
abbrev cX6_init : ByteArray := prog_8_method_1_code
def yX6_init : MethodName := ⟨RX6, "<init>", "()V"⟩
abbrev cX6_thrown : ByteArray := prog_8_method_2_code
def yX6_thrown : MethodName := ⟨RX6, "thrown", "()I"⟩
abbrev cX6_byteAt : ByteArray := prog_8_method_3_code
def yX6_byteAt : MethodName := ⟨RX6, "byteAt", "(I)I"⟩
abbrev cX6_isBlank : ByteArray := prog_8_method_4_code
def yX6_isBlank : MethodName := ⟨RX6, "isBlank", "(I)Z"⟩
abbrev cX6_isOwn : ByteArray := prog_8_method_5_code
def yX6_isOwn : MethodName := ⟨RX6, "isOwn", "(I)Z"⟩
abbrev cX6_isPlain : ByteArray := prog_8_method_6_code
def yX6_isPlain : MethodName := ⟨RX6, "isPlain", "(I)Z"⟩
abbrev cX6_add : ByteArray := prog_8_method_7_code
def yX6_add : MethodName := ⟨RX6, "add", "(B)I"⟩
abbrev cX6_end : ByteArray := prog_8_method_8_code
def yX6_end : MethodName := ⟨RX6, "end", "()I"⟩
abbrev cX6_isDigit : ByteArray := prog_8_method_9_code
def yX6_isDigit : MethodName := ⟨RX6, "isDigit", "(I)Z"⟩
abbrev cX6_digit : ByteArray := prog_8_method_10_code
def yX6_digit : MethodName := ⟨RX6, "digit", "(I)I"⟩
abbrev cX6_digitsFrom : ByteArray := prog_8_method_11_code
def yX6_digitsFrom : MethodName := ⟨RX6, "digitsFrom", "(II)I"⟩
abbrev cX6_isInteger : ByteArray := prog_8_method_12_code
def yX6_isInteger : MethodName := ⟨RX6, "isInteger", "(II)Z"⟩
abbrev cX6_withBase : ByteArray := prog_8_method_13_code
def yX6_withBase : MethodName := ⟨RX6, "withBase", "(II)I"⟩
abbrev cX6_asReal : ByteArray := prog_8_method_14_code
def yX6_asReal : MethodName := ⟨RX6, "asReal", "(II)I"⟩
abbrev cX6_word : ByteArray := prog_8_method_15_code
def yX6_word : MethodName := ⟨RX6, "word", "()I"⟩
abbrev cX6_anyWord : ByteArray := prog_8_method_16_code
def yX6_anyWord : MethodName := ⟨RX6, "anyWord", "()I"⟩
abbrev cX6_slashed : ByteArray := prog_8_method_17_code
def yX6_slashed : MethodName := ⟨RX6, "slashed", "()I"⟩
abbrev cX6_putSign : ByteArray := prog_8_method_18_code
def yX6_putSign : MethodName := ⟨RX6, "putSign", "(I)V"⟩
abbrev cX6_lacking : ByteArray := prog_8_method_19_code
def yX6_lacking : MethodName := ⟨RX6, "lacking", "()I"⟩
abbrev cX6_finished : ByteArray := prog_8_method_20_code
def yX6_finished : MethodName := ⟨RX6, "finished", "()I"⟩
abbrev cX6_escape : ByteArray := prog_8_method_21_code
def yX6_escape : MethodName := ⟨RX6, "escape", "()V"⟩
abbrev cX6_round : ByteArray := prog_8_method_22_code
def yX6_round : MethodName := ⟨RX6, "round", "()I"⟩
abbrev cX6_wrongByte : ByteArray := prog_8_method_23_code
def yX6_wrongByte : MethodName := ⟨RX6, "wrongByte", "(I)I"⟩
abbrev cX6_sixteens : ByteArray := prog_8_method_24_code
def yX6_sixteens : MethodName := ⟨RX6, "sixteens", "()I"⟩
abbrev cX6_some : ByteArray := prog_8_method_25_code
def yX6_some : MethodName := ⟨RX6, "some", "(JI)V"⟩
abbrev cX6_eightyFives : ByteArray := prog_8_method_26_code
def yX6_eightyFives : MethodName := ⟨RX6, "eightyFives", "()I"⟩
abbrev cX6_angled : ByteArray := prog_8_method_27_code
def yX6_angled : MethodName := ⟨RX6, "angled", "()I"⟩
abbrev cX6_signed : ByteArray := prog_8_method_28_code
def yX6_signed : MethodName := ⟨RX6, "signed", "(IIZ)J"⟩
abbrev cX6_power : ByteArray := prog_8_method_29_code
def yX6_power : MethodName := ⟨RX6, "power", "(I)D"⟩
abbrev cX6_four : ByteArray := prog_8_method_30_code
def yX6_four : MethodName := ⟨RX6, "four", "(IZ)D"⟩
abbrev cX6_came : ByteArray := prog_8_method_31_code
def yX6_came : MethodName := ⟨RX6, "came", "(I)Z"⟩
abbrev cX6_number : ByteArray := prog_8_method_32_code
def yX6_number : MethodName := ⟨RX6, "number", "(IZ)I"⟩
abbrev cX6_fixed : ByteArray := prog_8_method_33_code
def yX6_fixed : MethodName := ⟨RX6, "fixed", "()I"⟩
abbrev cX6_string : ByteArray := prog_8_method_34_code
def yX6_string : MethodName := ⟨RX6, "string", "(IZ)I"⟩
abbrev cX6_rows : ByteArray := prog_8_method_35_code
def yX6_rows : MethodName := ⟨RX6, "rows", "()I"⟩
abbrev cX6_one : ByteArray := prog_8_method_36_code
def yX6_one : MethodName := ⟨RX6, "one", "(IZ)I"⟩
abbrev cX6_binaryToken : ByteArray := prog_8_method_37_code
def yX6_binaryToken : MethodName := ⟨RX6, "binaryToken", "(I)I"⟩
abbrev cX6_asNumber : ByteArray := prog_8_method_38_code
def yX6_asNumber : MethodName := ⟨RX6, "asNumber", "(I)I"⟩
abbrev cX6_bracket : ByteArray := prog_8_method_39_code
def yX6_bracket : MethodName := ⟨RX6, "bracket", "(I)I"⟩
abbrev cX6_read : ByteArray := prog_8_method_40_code
def yX6_read : MethodName := ⟨RX6, "read", "(I)I"⟩
abbrev cX6_passBlanks : ByteArray := prog_8_method_41_code
def yX6_passBlanks : MethodName := ⟨RX6, "passBlanks", "()V"⟩
abbrev cX6_keep : ByteArray := prog_8_method_42_code
def yX6_keep : MethodName := ⟨RX6, "keep", "(I)V"⟩
abbrev cX6_next : ByteArray := prog_8_method_43_code
def yX6_next : MethodName := ⟨RX6, "next", "()I"⟩
abbrev cX6_whole : ByteArray := prog_8_method_44_code
def yX6_whole : MethodName := ⟨RX6, "whole", "()J"⟩
abbrev cX6_real : ByteArray := prog_8_method_45_code
def yX6_real : MethodName := ⟨RX6, "real", "()D"⟩
abbrev cX6_sign : ByteArray := prog_8_method_46_code
def yX6_sign : MethodName := ⟨RX6, "sign", "(I)I"⟩
abbrev cX6_binary : ByteArray := prog_8_method_47_code
def yX6_binary : MethodName := ⟨RX6, "binary", "(II)I"⟩
abbrev cX6_binaryReal : ByteArray := prog_8_method_48_code
def yX6_binaryReal : MethodName := ⟨RX6, "binaryReal", "(I)D"⟩
abbrev cX6_place : ByteArray := prog_8_method_49_code
def yX6_place : MethodName := ⟨RX6, "place", "()I"⟩
abbrev cX6_base : ByteArray := prog_8_method_50_code
def yX6_base : MethodName := ⟨RX6, "base", "()I"⟩
abbrev cX6_depth : ByteArray := prog_8_method_51_code
def yX6_depth : MethodName := ⟨RX6, "depth", "()I"⟩
abbrev cX6_octet : ByteArray := prog_8_method_52_code
def yX6_octet : MethodName := ⟨RX6, "octet", "(I)B"⟩
abbrev cX6_clear : ByteArray := prog_8_method_53_code
def yX6_clear : MethodName := ⟨RX6, "clear", "()V"⟩
def RJx00060 : String := "java/lang/ArrayIndexOutOfBoundsException"
def TJx00060 : u_T := fun k => match k with
  | 0 => ("java/lang/Throwable", "cause", "Ljava/lang/Throwable;", false)
  | 1 => ("java/lang/Throwable", "stackTrace", "[Ljava/lang/StackTraceElement;", false)
  | 2 => ("java/lang/Throwable", "suppressedExceptions", "Ljava/util/List;", false)
  | 3 => ("java/lang/Throwable", "detailMessage", "Ljava/lang/String;", false)
  | 4 => ("java/lang/Throwable", "backtrace", "Ljava/lang/Object;", false)
  | _ => ("java/lang/Throwable", "depth", "I", false)
def tyJx00060 : Nat → FieldType := fun k => match k with
  | 0 => .object "java/lang/Throwable"
  | 1 => .array (.object "java/lang/StackTraceElement")
  | 2 => .object "java/util/List"
  | 3 => .object "java/lang/String"
  | 4 => .object "java/lang/Object"
  | _ => .int
abbrev wsJx000600 : List Cond := u_ws RJx00060 TJx00060 6
theorem nmJx00060 : ∀ a, a < 6 → ∀ b, b < 6 → a ≠ b → (TJx00060 a).2.1 ≠ (TJx00060 b).2.1 := by decide +kernel
theorem tyJx00060_ok : ∀ k, k < 6 → parseFieldDescriptor (TJx00060 k).2.2.1 = some (tyJx00060 k) := by decide +kernel
abbrev cJx00060_init_a7421 : ByteArray := prog_9_method_2_code
def yJx00060_init_a7421 : MethodName := ⟨RJx00060, "<init>", "(Ljava/lang/String;)V"⟩
def RJ9 : String := "java/lang/Math"
def TJ9 : u_T := fun k => match k with
  | _ => ("", "", "", false)
def tyJ9 : Nat → FieldType := fun k => match k with
  | _ => .int
abbrev wsJ90 : List Cond := u_ws RJ9 TJ9 0
theorem nmJ9 : ∀ a, a < 0 → ∀ b, b < 0 → a ≠ b → (TJ9 a).2.1 ≠ (TJ9 b).2.1 := by decide +kernel
theorem tyJ9_ok : ∀ k, k < 0 → parseFieldDescriptor (TJ9 k).2.2.1 = some (tyJ9 k) := by decide +kernel
abbrev cJ9_max_7cf53 : ByteArray := prog_13_method_65_code
def yJ9_max_7cf53 : MethodName := ⟨RJ9, "max", "(II)I"⟩
abbrev cJ9_min_f86c9 : ByteArray := prog_13_method_70_code
def yJ9_min_f86c9 : MethodName := ⟨RJ9, "min", "(JJ)J"⟩
def RJ0 : String := "java/lang/String"
def TJ0 : u_T := fun k => match k with
  | _ => ("", "", "", false)
def tyJ0 : Nat → FieldType := fun k => match k with
  | _ => .int
abbrev wsJ00 : List Cond := u_ws RJ0 TJ0 0
theorem nmJ0 : ∀ a, a < 0 → ∀ b, b < 0 → a ≠ b → (TJ0 a).2.1 ≠ (TJ0 b).2.1 := by decide +kernel
theorem tyJ0_ok : ∀ k, k < 0 → parseFieldDescriptor (TJ0 k).2.2.1 = some (tyJ0 k) := by decide +kernel
def RL : String := "TokenReaderLaw"
abbrev cL_add : ByteArray := method_3_code
def yL_add : MethodName := ⟨RL, "add", "(LTokenReader;B[J)I"⟩
abbrev cL_binary : ByteArray := method_4_code
def yL_binary : MethodName := ⟨RL, "binary", "(LTokenReader;II[J)I"⟩
abbrev cL_binaryReal : ByteArray := method_5_code
def yL_binaryReal : MethodName := ⟨RL, "binaryReal", "(LTokenReader;I[D)I"⟩
abbrev cL_octet : ByteArray := method_6_code
def yL_octet : MethodName := ⟨RL, "octet", "(LTokenReader;I[J)I"⟩
abbrev cL_law : ByteArray := code
def yL_law : MethodName := ⟨RL, "law", "([I)Z"⟩
abbrev vwCl : List vw_C := [(RJx00060, TJx00060, 6), (RX0, TX0, 1), (RX1, TX1, 4), (RX2, TX2, 1), (RX3, TX3, 10), (RX4, TX4, 2), (RX5, TX5, 9), (RX6, TX6, 30)]
end
section
theorem dX0_init_0 : decode cX0_init 0 = .ok (.aload_n 0, 1) := by decide +kernel
theorem dX0_init_1 : decode cX0_init 1 = .ok (.invokespecial 3, 3) := by decide +kernel
theorem dX0_init_4 : decode cX0_init 4 = .ok (.aload_n 0, 1) := by decide +kernel
theorem dX0_init_5 : decode cX0_init 5 = .ok (.aload_n 1, 1) := by decide +kernel
theorem dX0_init_6 : decode cX0_init 6 = .ok (.putfield 9, 3) := by decide +kernel
theorem dX0_init_9 : decode cX0_init 9 = .ok (.return_, 1) := by decide +kernel
theorem dX0_readBinary_0 : decode cX0_readBinary 0 = .ok (.iload_n 2, 1) := by decide +kernel
theorem dX0_readBinary_1 : decode cX0_readBinary 1 = .ok (.tableswitch 199 132 149 #[87, 95, 103, 111, 119, 127, 133, 140, 199, 147, 153, 161, 169, 177, 185, 199, 199, 193], 87) := by decide +kernel
theorem dX0_readBinary_88 : decode cX0_readBinary 88 = .ok (.aload_n 0, 1) := by decide +kernel
theorem dX0_readBinary_89 : decode cX0_readBinary 89 = .ok (.aload_n 1, 1) := by decide +kernel
theorem dX0_readBinary_90 : decode cX0_readBinary 90 = .ok (.iconst 4, 1) := by decide +kernel
theorem dX0_readBinary_91 : decode cX0_readBinary 91 = .ok (.iconst 0, 1) := by decide +kernel
theorem dX0_readBinary_92 : decode cX0_readBinary 92 = .ok (.invokevirtual 15, 3) := by decide +kernel
theorem dX0_readBinary_95 : decode cX0_readBinary 95 = .ok (.ireturn, 1) := by decide +kernel
theorem dX0_readBinary_96 : decode cX0_readBinary 96 = .ok (.aload_n 0, 1) := by decide +kernel
theorem dX0_readBinary_97 : decode cX0_readBinary 97 = .ok (.aload_n 1, 1) := by decide +kernel
theorem dX0_readBinary_98 : decode cX0_readBinary 98 = .ok (.iconst 4, 1) := by decide +kernel
theorem dX0_readBinary_99 : decode cX0_readBinary 99 = .ok (.iconst 1, 1) := by decide +kernel
theorem dX0_readBinary_100 : decode cX0_readBinary 100 = .ok (.invokevirtual 15, 3) := by decide +kernel
theorem dX0_readBinary_103 : decode cX0_readBinary 103 = .ok (.ireturn, 1) := by decide +kernel
theorem dX0_readBinary_104 : decode cX0_readBinary 104 = .ok (.aload_n 0, 1) := by decide +kernel
theorem dX0_readBinary_105 : decode cX0_readBinary 105 = .ok (.aload_n 1, 1) := by decide +kernel
theorem dX0_readBinary_106 : decode cX0_readBinary 106 = .ok (.iconst 2, 1) := by decide +kernel
theorem dX0_readBinary_107 : decode cX0_readBinary 107 = .ok (.iconst 0, 1) := by decide +kernel
theorem dX0_readBinary_108 : decode cX0_readBinary 108 = .ok (.invokevirtual 15, 3) := by decide +kernel
theorem dX0_readBinary_111 : decode cX0_readBinary 111 = .ok (.ireturn, 1) := by decide +kernel
theorem dX0_readBinary_112 : decode cX0_readBinary 112 = .ok (.aload_n 0, 1) := by decide +kernel
theorem dX0_readBinary_113 : decode cX0_readBinary 113 = .ok (.aload_n 1, 1) := by decide +kernel
theorem dX0_readBinary_114 : decode cX0_readBinary 114 = .ok (.iconst 2, 1) := by decide +kernel
theorem dX0_readBinary_115 : decode cX0_readBinary 115 = .ok (.iconst 1, 1) := by decide +kernel
theorem dX0_readBinary_116 : decode cX0_readBinary 116 = .ok (.invokevirtual 15, 3) := by decide +kernel
theorem dX0_readBinary_119 : decode cX0_readBinary 119 = .ok (.ireturn, 1) := by decide +kernel
theorem dX0_readBinary_120 : decode cX0_readBinary 120 = .ok (.aload_n 0, 1) := by decide +kernel
theorem dX0_readBinary_121 : decode cX0_readBinary 121 = .ok (.aload_n 1, 1) := by decide +kernel
theorem dX0_readBinary_122 : decode cX0_readBinary 122 = .ok (.iconst 1, 1) := by decide +kernel
theorem dX0_readBinary_123 : decode cX0_readBinary 123 = .ok (.iconst 0, 1) := by decide +kernel
theorem dX0_readBinary_124 : decode cX0_readBinary 124 = .ok (.invokevirtual 15, 3) := by decide +kernel
theorem dX0_readBinary_127 : decode cX0_readBinary 127 = .ok (.ireturn, 1) := by decide +kernel
theorem dX0_readBinary_128 : decode cX0_readBinary 128 = .ok (.aload_n 0, 1) := by decide +kernel
theorem dX0_readBinary_129 : decode cX0_readBinary 129 = .ok (.aload_n 1, 1) := by decide +kernel
theorem dX0_readBinary_130 : decode cX0_readBinary 130 = .ok (.invokevirtual 19, 3) := by decide +kernel
theorem dX0_readBinary_133 : decode cX0_readBinary 133 = .ok (.ireturn, 1) := by decide +kernel
theorem dX0_readBinary_134 : decode cX0_readBinary 134 = .ok (.aload_n 0, 1) := by decide +kernel
theorem dX0_readBinary_135 : decode cX0_readBinary 135 = .ok (.aload_n 1, 1) := by decide +kernel
theorem dX0_readBinary_136 : decode cX0_readBinary 136 = .ok (.iconst 0, 1) := by decide +kernel
theorem dX0_readBinary_137 : decode cX0_readBinary 137 = .ok (.invokevirtual 23, 3) := by decide +kernel
theorem dX0_readBinary_140 : decode cX0_readBinary 140 = .ok (.ireturn, 1) := by decide +kernel
theorem dX0_readBinary_141 : decode cX0_readBinary 141 = .ok (.aload_n 0, 1) := by decide +kernel
theorem dX0_readBinary_142 : decode cX0_readBinary 142 = .ok (.aload_n 1, 1) := by decide +kernel
theorem dX0_readBinary_143 : decode cX0_readBinary 143 = .ok (.iconst 1, 1) := by decide +kernel
theorem dX0_readBinary_144 : decode cX0_readBinary 144 = .ok (.invokevirtual 23, 3) := by decide +kernel
theorem dX0_readBinary_147 : decode cX0_readBinary 147 = .ok (.ireturn, 1) := by decide +kernel
theorem dX0_readBinary_148 : decode cX0_readBinary 148 = .ok (.aload_n 0, 1) := by decide +kernel
theorem dX0_readBinary_149 : decode cX0_readBinary 149 = .ok (.aload_n 1, 1) := by decide +kernel
theorem dX0_readBinary_150 : decode cX0_readBinary 150 = .ok (.invokevirtual 27, 3) := by decide +kernel
theorem dX0_readBinary_153 : decode cX0_readBinary 153 = .ok (.ireturn, 1) := by decide +kernel
theorem dX0_readBinary_154 : decode cX0_readBinary 154 = .ok (.aload_n 0, 1) := by decide +kernel
theorem dX0_readBinary_155 : decode cX0_readBinary 155 = .ok (.aload_n 1, 1) := by decide +kernel
theorem dX0_readBinary_156 : decode cX0_readBinary 156 = .ok (.iconst 1, 1) := by decide +kernel
theorem dX0_readBinary_157 : decode cX0_readBinary 157 = .ok (.iconst 0, 1) := by decide +kernel
theorem dX0_readBinary_158 : decode cX0_readBinary 158 = .ok (.invokevirtual 30, 3) := by decide +kernel
theorem dX0_readBinary_161 : decode cX0_readBinary 161 = .ok (.ireturn, 1) := by decide +kernel
theorem dX0_readBinary_162 : decode cX0_readBinary 162 = .ok (.aload_n 0, 1) := by decide +kernel
theorem dX0_readBinary_163 : decode cX0_readBinary 163 = .ok (.aload_n 1, 1) := by decide +kernel
theorem dX0_readBinary_164 : decode cX0_readBinary 164 = .ok (.iconst 2, 1) := by decide +kernel
theorem dX0_readBinary_165 : decode cX0_readBinary 165 = .ok (.iconst 0, 1) := by decide +kernel
theorem dX0_readBinary_166 : decode cX0_readBinary 166 = .ok (.invokevirtual 30, 3) := by decide +kernel
theorem dX0_readBinary_169 : decode cX0_readBinary 169 = .ok (.ireturn, 1) := by decide +kernel
theorem dX0_readBinary_170 : decode cX0_readBinary 170 = .ok (.aload_n 0, 1) := by decide +kernel
theorem dX0_readBinary_171 : decode cX0_readBinary 171 = .ok (.aload_n 1, 1) := by decide +kernel
theorem dX0_readBinary_172 : decode cX0_readBinary 172 = .ok (.iconst 2, 1) := by decide +kernel
theorem dX0_readBinary_173 : decode cX0_readBinary 173 = .ok (.iconst 1, 1) := by decide +kernel
theorem dX0_readBinary_174 : decode cX0_readBinary 174 = .ok (.invokevirtual 30, 3) := by decide +kernel
theorem dX0_readBinary_177 : decode cX0_readBinary 177 = .ok (.ireturn, 1) := by decide +kernel
theorem dX0_readBinary_178 : decode cX0_readBinary 178 = .ok (.aload_n 0, 1) := by decide +kernel
theorem dX0_readBinary_179 : decode cX0_readBinary 179 = .ok (.aload_n 1, 1) := by decide +kernel
theorem dX0_readBinary_180 : decode cX0_readBinary 180 = .ok (.bipush 14, 2) := by decide +kernel
theorem dX0_readBinary_182 : decode cX0_readBinary 182 = .ok (.invokevirtual 33, 3) := by decide +kernel
theorem dX0_readBinary_185 : decode cX0_readBinary 185 = .ok (.ireturn, 1) := by decide +kernel
theorem dX0_readBinary_186 : decode cX0_readBinary 186 = .ok (.aload_n 0, 1) := by decide +kernel
theorem dX0_readBinary_187 : decode cX0_readBinary 187 = .ok (.aload_n 1, 1) := by decide +kernel
theorem dX0_readBinary_188 : decode cX0_readBinary 188 = .ok (.bipush 15, 2) := by decide +kernel
theorem dX0_readBinary_190 : decode cX0_readBinary 190 = .ok (.invokevirtual 33, 3) := by decide +kernel
theorem dX0_readBinary_193 : decode cX0_readBinary 193 = .ok (.ireturn, 1) := by decide +kernel
theorem dX0_readBinary_194 : decode cX0_readBinary 194 = .ok (.aload_n 0, 1) := by decide +kernel
theorem dX0_readBinary_195 : decode cX0_readBinary 195 = .ok (.aload_n 1, 1) := by decide +kernel
theorem dX0_readBinary_196 : decode cX0_readBinary 196 = .ok (.invokevirtual 37, 3) := by decide +kernel
theorem dX0_readBinary_199 : decode cX0_readBinary 199 = .ok (.ireturn, 1) := by decide +kernel
theorem dX0_readBinary_200 : decode cX0_readBinary 200 = .ok (.bipush (-5), 2) := by decide +kernel
theorem dX0_readBinary_202 : decode cX0_readBinary 202 = .ok (.ireturn, 1) := by decide +kernel
theorem dX0_reaches_0 : decode cX0_reaches 0 = .ok (.aload_n 1, 1) := by decide +kernel
theorem dX0_reaches_1 : decode cX0_reaches 1 = .ok (.iload_n 2, 1) := by decide +kernel
theorem dX0_reaches_2 : decode cX0_reaches 2 = .ok (.putfield 40, 3) := by decide +kernel
theorem dX0_reaches_5 : decode cX0_reaches 5 = .ok (.iload_n 2, 1) := by decide +kernel
theorem dX0_reaches_6 : decode cX0_reaches 6 = .ok (.aload_n 0, 1) := by decide +kernel
theorem dX0_reaches_7 : decode cX0_reaches 7 = .ok (.getfield 9, 3) := by decide +kernel
theorem dX0_reaches_10 : decode cX0_reaches 10 = .ok (.getfield 46, 3) := by decide +kernel
theorem dX0_reaches_13 : decode cX0_reaches 13 = .ok (.if_icmp .gt 7, 3) := by decide +kernel
theorem dX0_reaches_16 : decode cX0_reaches 16 = .ok (.iconst 1, 1) := by decide +kernel
theorem dX0_reaches_17 : decode cX0_reaches 17 = .ok (.goto 4, 3) := by decide +kernel
theorem dX0_reaches_20 : decode cX0_reaches 20 = .ok (.iconst 0, 1) := by decide +kernel
theorem dX0_reaches_21 : decode cX0_reaches 21 = .ok (.ireturn, 1) := by decide +kernel
theorem dX0_readNumber_0 : decode cX0_readNumber 0 = .ok (.aload_n 1, 1) := by decide +kernel
theorem dX0_readNumber_1 : decode cX0_readNumber 1 = .ok (.getfield 51, 3) := by decide +kernel
theorem dX0_readNumber_4 : decode cX0_readNumber 4 = .ok (.iconst 1, 1) := by decide +kernel
theorem dX0_readNumber_5 : decode cX0_readNumber 5 = .ok (.iadd, 1) := by decide +kernel
theorem dX0_readNumber_6 : decode cX0_readNumber 6 = .ok (.istore 4, 2) := by decide +kernel
theorem dX0_readNumber_8 : decode cX0_readNumber 8 = .ok (.aload_n 0, 1) := by decide +kernel
theorem dX0_readNumber_9 : decode cX0_readNumber 9 = .ok (.aload_n 1, 1) := by decide +kernel
theorem dX0_readNumber_10 : decode cX0_readNumber 10 = .ok (.iload 4, 2) := by decide +kernel
theorem dX0_readNumber_12 : decode cX0_readNumber 12 = .ok (.iload_n 2, 1) := by decide +kernel
theorem dX0_readNumber_13 : decode cX0_readNumber 13 = .ok (.iadd, 1) := by decide +kernel
theorem dX0_readNumber_14 : decode cX0_readNumber 14 = .ok (.invokevirtual 54, 3) := by decide +kernel
theorem dX0_readNumber_17 : decode cX0_readNumber 17 = .ok (.ifCond .ne 12, 3) := by decide +kernel
theorem dX0_readNumber_20 : decode cX0_readNumber 20 = .ok (.aload_n 0, 1) := by decide +kernel
theorem dX0_readNumber_21 : decode cX0_readNumber 21 = .ok (.getfield 9, 3) := by decide +kernel
theorem dX0_readNumber_24 : decode cX0_readNumber 24 = .ok (.aload_n 1, 1) := by decide +kernel
theorem dX0_readNumber_25 : decode cX0_readNumber 25 = .ok (.invokevirtual 58, 3) := by decide +kernel
theorem dX0_readNumber_28 : decode cX0_readNumber 28 = .ok (.ireturn, 1) := by decide +kernel
theorem dX0_readNumber_29 : decode cX0_readNumber 29 = .ok (.aload_n 1, 1) := by decide +kernel
theorem dX0_readNumber_30 : decode cX0_readNumber 30 = .ok (.iconst 1, 1) := by decide +kernel
theorem dX0_readNumber_31 : decode cX0_readNumber 31 = .ok (.aload_n 0, 1) := by decide +kernel
theorem dX0_readNumber_32 : decode cX0_readNumber 32 = .ok (.iload 4, 2) := by decide +kernel
theorem dX0_readNumber_34 : decode cX0_readNumber 34 = .ok (.iload_n 2, 1) := by decide +kernel
theorem dX0_readNumber_35 : decode cX0_readNumber 35 = .ok (.iload_n 3, 1) := by decide +kernel
theorem dX0_readNumber_36 : decode cX0_readNumber 36 = .ok (.invokevirtual 61, 3) := by decide +kernel
theorem dX0_readNumber_39 : decode cX0_readNumber 39 = .ok (.i2l, 1) := by decide +kernel
theorem dX0_readNumber_40 : decode cX0_readNumber 40 = .ok (.invokevirtual 65, 3) := by decide +kernel
theorem dX0_readNumber_43 : decode cX0_readNumber 43 = .ok (.ireturn, 1) := by decide +kernel
theorem dX0_readFixed_0 : decode cX0_readFixed 0 = .ok (.aload_n 1, 1) := by decide +kernel
theorem dX0_readFixed_1 : decode cX0_readFixed 1 = .ok (.getfield 51, 3) := by decide +kernel
theorem dX0_readFixed_4 : decode cX0_readFixed 4 = .ok (.iconst 2, 1) := by decide +kernel
theorem dX0_readFixed_5 : decode cX0_readFixed 5 = .ok (.iadd, 1) := by decide +kernel
theorem dX0_readFixed_6 : decode cX0_readFixed 6 = .ok (.istore_n 2, 1) := by decide +kernel
theorem dX0_readFixed_7 : decode cX0_readFixed 7 = .ok (.aload_n 0, 1) := by decide +kernel
theorem dX0_readFixed_8 : decode cX0_readFixed 8 = .ok (.getfield 9, 3) := by decide +kernel
theorem dX0_readFixed_11 : decode cX0_readFixed 11 = .ok (.iload_n 2, 1) := by decide +kernel
theorem dX0_readFixed_12 : decode cX0_readFixed 12 = .ok (.iconst 1, 1) := by decide +kernel
theorem dX0_readFixed_13 : decode cX0_readFixed 13 = .ok (.isub, 1) := by decide +kernel
theorem dX0_readFixed_14 : decode cX0_readFixed 14 = .ok (.invokevirtual 69, 3) := by decide +kernel
theorem dX0_readFixed_17 : decode cX0_readFixed 17 = .ok (.istore_n 3, 1) := by decide +kernel
theorem dX0_readFixed_18 : decode cX0_readFixed 18 = .ok (.iload_n 3, 1) := by decide +kernel
theorem dX0_readFixed_19 : decode cX0_readFixed 19 = .ok (.iconst (-1), 1) := by decide +kernel
theorem dX0_readFixed_20 : decode cX0_readFixed 20 = .ok (.if_icmp .ne 12, 3) := by decide +kernel
theorem dX0_readFixed_23 : decode cX0_readFixed 23 = .ok (.aload_n 0, 1) := by decide +kernel
theorem dX0_readFixed_24 : decode cX0_readFixed 24 = .ok (.getfield 9, 3) := by decide +kernel
theorem dX0_readFixed_27 : decode cX0_readFixed 27 = .ok (.aload_n 1, 1) := by decide +kernel
theorem dX0_readFixed_28 : decode cX0_readFixed 28 = .ok (.invokevirtual 58, 3) := by decide +kernel
theorem dX0_readFixed_31 : decode cX0_readFixed 31 = .ok (.ireturn, 1) := by decide +kernel
theorem dX0_readFixed_32 : decode cX0_readFixed 32 = .ok (.iload_n 3, 1) := by decide +kernel
theorem dX0_readFixed_33 : decode cX0_readFixed 33 = .ok (.bipush 127, 2) := by decide +kernel
theorem dX0_readFixed_35 : decode cX0_readFixed 35 = .ok (.iand, 1) := by decide +kernel
theorem dX0_readFixed_36 : decode cX0_readFixed 36 = .ok (.bipush 48, 2) := by decide +kernel
theorem dX0_readFixed_38 : decode cX0_readFixed 38 = .ok (.if_icmp .lt 13, 3) := by decide +kernel
theorem dX0_readFixed_41 : decode cX0_readFixed 41 = .ok (.aload_n 1, 1) := by decide +kernel
theorem dX0_readFixed_42 : decode cX0_readFixed 42 = .ok (.bipush (-5), 2) := by decide +kernel
theorem dX0_readFixed_44 : decode cX0_readFixed 44 = .ok (.iload_n 2, 1) := by decide +kernel
theorem dX0_readFixed_45 : decode cX0_readFixed 45 = .ok (.iconst 1, 1) := by decide +kernel
theorem dX0_readFixed_46 : decode cX0_readFixed 46 = .ok (.isub, 1) := by decide +kernel
theorem dX0_readFixed_47 : decode cX0_readFixed 47 = .ok (.invokevirtual 73, 3) := by decide +kernel
theorem dX0_readFixed_50 : decode cX0_readFixed 50 = .ok (.ireturn, 1) := by decide +kernel
theorem dX0_readFixed_51 : decode cX0_readFixed 51 = .ok (.iload_n 3, 1) := by decide +kernel
theorem dX0_readFixed_52 : decode cX0_readFixed 52 = .ok (.invokestatic 77, 3) := by decide +kernel
theorem dX0_readFixed_55 : decode cX0_readFixed 55 = .ok (.istore 4, 2) := by decide +kernel
theorem dX0_readFixed_57 : decode cX0_readFixed 57 = .ok (.aload_n 0, 1) := by decide +kernel
theorem dX0_readFixed_58 : decode cX0_readFixed 58 = .ok (.aload_n 1, 1) := by decide +kernel
theorem dX0_readFixed_59 : decode cX0_readFixed 59 = .ok (.iload_n 2, 1) := by decide +kernel
theorem dX0_readFixed_60 : decode cX0_readFixed 60 = .ok (.iload 4, 2) := by decide +kernel
theorem dX0_readFixed_62 : decode cX0_readFixed 62 = .ok (.iadd, 1) := by decide +kernel
theorem dX0_readFixed_63 : decode cX0_readFixed 63 = .ok (.invokevirtual 54, 3) := by decide +kernel
theorem dX0_readFixed_66 : decode cX0_readFixed 66 = .ok (.ifCond .ne 12, 3) := by decide +kernel
theorem dX0_readFixed_69 : decode cX0_readFixed 69 = .ok (.aload_n 0, 1) := by decide +kernel
theorem dX0_readFixed_70 : decode cX0_readFixed 70 = .ok (.getfield 9, 3) := by decide +kernel
theorem dX0_readFixed_73 : decode cX0_readFixed 73 = .ok (.aload_n 1, 1) := by decide +kernel
theorem dX0_readFixed_74 : decode cX0_readFixed 74 = .ok (.invokevirtual 58, 3) := by decide +kernel
theorem dX0_readFixed_77 : decode cX0_readFixed 77 = .ok (.ireturn, 1) := by decide +kernel
theorem dX0_readFixed_78 : decode cX0_readFixed 78 = .ok (.aload_n 1, 1) := by decide +kernel
theorem dX0_readFixed_79 : decode cX0_readFixed 79 = .ok (.aload_n 0, 1) := by decide +kernel
theorem dX0_readFixed_80 : decode cX0_readFixed 80 = .ok (.iload_n 2, 1) := by decide +kernel
theorem dX0_readFixed_81 : decode cX0_readFixed 81 = .ok (.iload 4, 2) := by decide +kernel
theorem dX0_readFixed_83 : decode cX0_readFixed 83 = .ok (.iload_n 3, 1) := by decide +kernel
theorem dX0_readFixed_84 : decode cX0_readFixed 84 = .ok (.sipush 128, 3) := by decide +kernel
theorem dX0_readFixed_87 : decode cX0_readFixed 87 = .ok (.if_icmp .lt 7, 3) := by decide +kernel
theorem dX0_readFixed_90 : decode cX0_readFixed 90 = .ok (.iconst 1, 1) := by decide +kernel
theorem dX0_readFixed_91 : decode cX0_readFixed 91 = .ok (.goto 4, 3) := by decide +kernel
theorem dX0_readFixed_94 : decode cX0_readFixed 94 = .ok (.iconst 0, 1) := by decide +kernel
theorem dX0_readFixed_95 : decode cX0_readFixed 95 = .ok (.invokevirtual 61, 3) := by decide +kernel
theorem dX0_readFixed_98 : decode cX0_readFixed 98 = .ok (.iload_n 3, 1) := by decide +kernel
theorem dX0_readFixed_99 : decode cX0_readFixed 99 = .ok (.invokestatic 80, 3) := by decide +kernel
theorem dX0_readFixed_102 : decode cX0_readFixed 102 = .ok (.invokevirtual 84, 3) := by decide +kernel
theorem dX0_readFixed_105 : decode cX0_readFixed 105 = .ok (.ireturn, 1) := by decide +kernel
theorem dX0_readFloat_0 : decode cX0_readFloat 0 = .ok (.aload_n 1, 1) := by decide +kernel
theorem dX0_readFloat_1 : decode cX0_readFloat 1 = .ok (.getfield 51, 3) := by decide +kernel
theorem dX0_readFloat_4 : decode cX0_readFloat 4 = .ok (.iconst 1, 1) := by decide +kernel
theorem dX0_readFloat_5 : decode cX0_readFloat 5 = .ok (.iadd, 1) := by decide +kernel
theorem dX0_readFloat_6 : decode cX0_readFloat 6 = .ok (.istore_n 3, 1) := by decide +kernel
theorem dX0_readFloat_7 : decode cX0_readFloat 7 = .ok (.aload_n 0, 1) := by decide +kernel
theorem dX0_readFloat_8 : decode cX0_readFloat 8 = .ok (.aload_n 1, 1) := by decide +kernel
theorem dX0_readFloat_9 : decode cX0_readFloat 9 = .ok (.iload_n 3, 1) := by decide +kernel
theorem dX0_readFloat_10 : decode cX0_readFloat 10 = .ok (.iconst 4, 1) := by decide +kernel
theorem dX0_readFloat_11 : decode cX0_readFloat 11 = .ok (.iadd, 1) := by decide +kernel
theorem dX0_readFloat_12 : decode cX0_readFloat 12 = .ok (.invokevirtual 54, 3) := by decide +kernel
theorem dX0_readFloat_15 : decode cX0_readFloat 15 = .ok (.ifCond .ne 12, 3) := by decide +kernel
theorem dX0_readFloat_18 : decode cX0_readFloat 18 = .ok (.aload_n 0, 1) := by decide +kernel
theorem dX0_readFloat_19 : decode cX0_readFloat 19 = .ok (.getfield 9, 3) := by decide +kernel
theorem dX0_readFloat_22 : decode cX0_readFloat 22 = .ok (.aload_n 1, 1) := by decide +kernel
theorem dX0_readFloat_23 : decode cX0_readFloat 23 = .ok (.invokevirtual 58, 3) := by decide +kernel
theorem dX0_readFloat_26 : decode cX0_readFloat 26 = .ok (.ireturn, 1) := by decide +kernel
theorem dX0_readFloat_27 : decode cX0_readFloat 27 = .ok (.aload_n 0, 1) := by decide +kernel
theorem dX0_readFloat_28 : decode cX0_readFloat 28 = .ok (.iload_n 3, 1) := by decide +kernel
theorem dX0_readFloat_29 : decode cX0_readFloat 29 = .ok (.iconst 4, 1) := by decide +kernel
theorem dX0_readFloat_30 : decode cX0_readFloat 30 = .ok (.iload_n 2, 1) := by decide +kernel
theorem dX0_readFloat_31 : decode cX0_readFloat 31 = .ok (.invokevirtual 61, 3) := by decide +kernel
theorem dX0_readFloat_34 : decode cX0_readFloat 34 = .ok (.istore 4, 2) := by decide +kernel
theorem dX0_readFloat_36 : decode cX0_readFloat 36 = .ok (.iload 4, 2) := by decide +kernel
theorem dX0_readFloat_38 : decode cX0_readFloat 38 = .ok (.invokestatic 88, 3) := by decide +kernel
theorem dX0_readFloat_41 : decode cX0_readFloat 41 = .ok (.ifCond .eq 15, 3) := by decide +kernel
theorem dX0_readFloat_44 : decode cX0_readFloat 44 = .ok (.aload_n 1, 1) := by decide +kernel
theorem dX0_readFloat_45 : decode cX0_readFloat 45 = .ok (.iload 4, 2) := by decide +kernel
theorem dX0_readFloat_47 : decode cX0_readFloat 47 = .ok (.invokestatic 92, 3) := by decide +kernel
theorem dX0_readFloat_50 : decode cX0_readFloat 50 = .ok (.invokevirtual 84, 3) := by decide +kernel
theorem dX0_readFloat_53 : decode cX0_readFloat 53 = .ok (.goto 5, 3) := by decide +kernel
theorem dX0_readFloat_56 : decode cX0_readFloat 56 = .ok (.bipush (-6), 2) := by decide +kernel
theorem dX0_readFloat_58 : decode cX0_readFloat 58 = .ok (.ireturn, 1) := by decide +kernel
theorem dX0_readTruth_0 : decode cX0_readTruth 0 = .ok (.aload_n 1, 1) := by decide +kernel
theorem dX0_readTruth_1 : decode cX0_readTruth 1 = .ok (.getfield 51, 3) := by decide +kernel
theorem dX0_readTruth_4 : decode cX0_readTruth 4 = .ok (.iconst 1, 1) := by decide +kernel
theorem dX0_readTruth_5 : decode cX0_readTruth 5 = .ok (.iadd, 1) := by decide +kernel
theorem dX0_readTruth_6 : decode cX0_readTruth 6 = .ok (.istore_n 2, 1) := by decide +kernel
theorem dX0_readTruth_7 : decode cX0_readTruth 7 = .ok (.aload_n 0, 1) := by decide +kernel
theorem dX0_readTruth_8 : decode cX0_readTruth 8 = .ok (.getfield 9, 3) := by decide +kernel
theorem dX0_readTruth_11 : decode cX0_readTruth 11 = .ok (.iload_n 2, 1) := by decide +kernel
theorem dX0_readTruth_12 : decode cX0_readTruth 12 = .ok (.invokevirtual 69, 3) := by decide +kernel
theorem dX0_readTruth_15 : decode cX0_readTruth 15 = .ok (.istore_n 3, 1) := by decide +kernel
theorem dX0_readTruth_16 : decode cX0_readTruth 16 = .ok (.iload_n 3, 1) := by decide +kernel
theorem dX0_readTruth_17 : decode cX0_readTruth 17 = .ok (.iconst 1, 1) := by decide +kernel
theorem dX0_readTruth_18 : decode cX0_readTruth 18 = .ok (.if_icmp .le 11, 3) := by decide +kernel
theorem dX0_readTruth_21 : decode cX0_readTruth 21 = .ok (.aload_n 1, 1) := by decide +kernel
theorem dX0_readTruth_22 : decode cX0_readTruth 22 = .ok (.bipush (-5), 2) := by decide +kernel
theorem dX0_readTruth_24 : decode cX0_readTruth 24 = .ok (.iload_n 2, 1) := by decide +kernel
theorem dX0_readTruth_25 : decode cX0_readTruth 25 = .ok (.invokevirtual 73, 3) := by decide +kernel
theorem dX0_readTruth_28 : decode cX0_readTruth 28 = .ok (.ireturn, 1) := by decide +kernel
theorem dX0_readTruth_29 : decode cX0_readTruth 29 = .ok (.aload_n 0, 1) := by decide +kernel
theorem dX0_readTruth_30 : decode cX0_readTruth 30 = .ok (.aload_n 1, 1) := by decide +kernel
theorem dX0_readTruth_31 : decode cX0_readTruth 31 = .ok (.bipush 13, 2) := by decide +kernel
theorem dX0_readTruth_33 : decode cX0_readTruth 33 = .ok (.invokevirtual 33, 3) := by decide +kernel
theorem dX0_readTruth_36 : decode cX0_readTruth 36 = .ok (.ireturn, 1) := by decide +kernel
theorem dX0_readNumbered_0 : decode cX0_readNumbered 0 = .ok (.aload_n 1, 1) := by decide +kernel
theorem dX0_readNumbered_1 : decode cX0_readNumbered 1 = .ok (.getfield 51, 3) := by decide +kernel
theorem dX0_readNumbered_4 : decode cX0_readNumbered 4 = .ok (.iconst 1, 1) := by decide +kernel
theorem dX0_readNumbered_5 : decode cX0_readNumbered 5 = .ok (.iadd, 1) := by decide +kernel
theorem dX0_readNumbered_6 : decode cX0_readNumbered 6 = .ok (.istore_n 3, 1) := by decide +kernel
theorem dX0_readNumbered_7 : decode cX0_readNumbered 7 = .ok (.aload_n 0, 1) := by decide +kernel
theorem dX0_readNumbered_8 : decode cX0_readNumbered 8 = .ok (.aload_n 1, 1) := by decide +kernel
theorem dX0_readNumbered_9 : decode cX0_readNumbered 9 = .ok (.iload_n 3, 1) := by decide +kernel
theorem dX0_readNumbered_10 : decode cX0_readNumbered 10 = .ok (.iconst 1, 1) := by decide +kernel
theorem dX0_readNumbered_11 : decode cX0_readNumbered 11 = .ok (.iadd, 1) := by decide +kernel
theorem dX0_readNumbered_12 : decode cX0_readNumbered 12 = .ok (.invokevirtual 54, 3) := by decide +kernel
theorem dX0_readNumbered_15 : decode cX0_readNumbered 15 = .ok (.ifCond .ne 12, 3) := by decide +kernel
theorem dX0_readNumbered_18 : decode cX0_readNumbered 18 = .ok (.aload_n 0, 1) := by decide +kernel
theorem dX0_readNumbered_19 : decode cX0_readNumbered 19 = .ok (.getfield 9, 3) := by decide +kernel
theorem dX0_readNumbered_22 : decode cX0_readNumbered 22 = .ok (.aload_n 1, 1) := by decide +kernel
theorem dX0_readNumbered_23 : decode cX0_readNumbered 23 = .ok (.invokevirtual 58, 3) := by decide +kernel
theorem dX0_readNumbered_26 : decode cX0_readNumbered 26 = .ok (.ireturn, 1) := by decide +kernel
theorem dX0_readNumbered_27 : decode cX0_readNumbered 27 = .ok (.aload_n 1, 1) := by decide +kernel
theorem dX0_readNumbered_28 : decode cX0_readNumbered 28 = .ok (.iload_n 2, 1) := by decide +kernel
theorem dX0_readNumbered_29 : decode cX0_readNumbered 29 = .ok (.aload_n 0, 1) := by decide +kernel
theorem dX0_readNumbered_30 : decode cX0_readNumbered 30 = .ok (.getfield 9, 3) := by decide +kernel
theorem dX0_readNumbered_33 : decode cX0_readNumbered 33 = .ok (.iload_n 3, 1) := by decide +kernel
theorem dX0_readNumbered_34 : decode cX0_readNumbered 34 = .ok (.invokevirtual 69, 3) := by decide +kernel
theorem dX0_readNumbered_37 : decode cX0_readNumbered 37 = .ok (.i2l, 1) := by decide +kernel
theorem dX0_readNumbered_38 : decode cX0_readNumbered 38 = .ok (.invokevirtual 65, 3) := by decide +kernel
theorem dX0_readNumbered_41 : decode cX0_readNumbered 41 = .ok (.ireturn, 1) := by decide +kernel
theorem dX0_readString_0 : decode cX0_readString 0 = .ok (.aload_n 1, 1) := by decide +kernel
theorem dX0_readString_1 : decode cX0_readString 1 = .ok (.getfield 51, 3) := by decide +kernel
theorem dX0_readString_4 : decode cX0_readString 4 = .ok (.iconst 1, 1) := by decide +kernel
theorem dX0_readString_5 : decode cX0_readString 5 = .ok (.iadd, 1) := by decide +kernel
theorem dX0_readString_6 : decode cX0_readString 6 = .ok (.iload_n 2, 1) := by decide +kernel
theorem dX0_readString_7 : decode cX0_readString 7 = .ok (.iadd, 1) := by decide +kernel
theorem dX0_readString_8 : decode cX0_readString 8 = .ok (.istore 4, 2) := by decide +kernel
theorem dX0_readString_10 : decode cX0_readString 10 = .ok (.aload_n 0, 1) := by decide +kernel
theorem dX0_readString_11 : decode cX0_readString 11 = .ok (.aload_n 1, 1) := by decide +kernel
theorem dX0_readString_12 : decode cX0_readString 12 = .ok (.iload 4, 2) := by decide +kernel
theorem dX0_readString_14 : decode cX0_readString 14 = .ok (.invokevirtual 54, 3) := by decide +kernel
theorem dX0_readString_17 : decode cX0_readString 17 = .ok (.ifCond .ne 12, 3) := by decide +kernel
theorem dX0_readString_20 : decode cX0_readString 20 = .ok (.aload_n 0, 1) := by decide +kernel
theorem dX0_readString_21 : decode cX0_readString 21 = .ok (.getfield 9, 3) := by decide +kernel
theorem dX0_readString_24 : decode cX0_readString 24 = .ok (.aload_n 1, 1) := by decide +kernel
theorem dX0_readString_25 : decode cX0_readString 25 = .ok (.invokevirtual 58, 3) := by decide +kernel
theorem dX0_readString_28 : decode cX0_readString 28 = .ok (.ireturn, 1) := by decide +kernel
theorem dX0_readString_29 : decode cX0_readString 29 = .ok (.iload 4, 2) := by decide +kernel
theorem dX0_readString_31 : decode cX0_readString 31 = .ok (.aload_n 0, 1) := by decide +kernel
theorem dX0_readString_32 : decode cX0_readString 32 = .ok (.iload 4, 2) := by decide +kernel
theorem dX0_readString_34 : decode cX0_readString 34 = .ok (.iload_n 2, 1) := by decide +kernel
theorem dX0_readString_35 : decode cX0_readString 35 = .ok (.isub, 1) := by decide +kernel
theorem dX0_readString_36 : decode cX0_readString 36 = .ok (.iload_n 2, 1) := by decide +kernel
theorem dX0_readString_37 : decode cX0_readString 37 = .ok (.iload_n 3, 1) := by decide +kernel
theorem dX0_readString_38 : decode cX0_readString 38 = .ok (.invokevirtual 96, 3) := by decide +kernel
theorem dX0_readString_41 : decode cX0_readString 41 = .ok (.iadd, 1) := by decide +kernel
theorem dX0_readString_42 : decode cX0_readString 42 = .ok (.istore 5, 2) := by decide +kernel
theorem dX0_readString_44 : decode cX0_readString 44 = .ok (.aload_n 0, 1) := by decide +kernel
theorem dX0_readString_45 : decode cX0_readString 45 = .ok (.aload_n 1, 1) := by decide +kernel
theorem dX0_readString_46 : decode cX0_readString 46 = .ok (.iload 5, 2) := by decide +kernel
theorem dX0_readString_48 : decode cX0_readString 48 = .ok (.invokevirtual 54, 3) := by decide +kernel
theorem dX0_readString_51 : decode cX0_readString 51 = .ok (.ifCond .ne 12, 3) := by decide +kernel
theorem dX0_readString_54 : decode cX0_readString 54 = .ok (.aload_n 0, 1) := by decide +kernel
theorem dX0_readString_55 : decode cX0_readString 55 = .ok (.getfield 9, 3) := by decide +kernel
theorem dX0_readString_58 : decode cX0_readString 58 = .ok (.aload_n 1, 1) := by decide +kernel
theorem dX0_readString_59 : decode cX0_readString 59 = .ok (.invokevirtual 58, 3) := by decide +kernel
theorem dX0_readString_62 : decode cX0_readString 62 = .ok (.ireturn, 1) := by decide +kernel
theorem dX0_readString_63 : decode cX0_readString 63 = .ok (.iload 4, 2) := by decide +kernel
theorem dX0_readString_65 : decode cX0_readString 65 = .ok (.istore 6, 2) := by decide +kernel
theorem dX0_readString_67 : decode cX0_readString 67 = .ok (.iload 6, 2) := by decide +kernel
theorem dX0_readString_69 : decode cX0_readString 69 = .ok (.iload 5, 2) := by decide +kernel
theorem dX0_readString_71 : decode cX0_readString 71 = .ok (.if_icmp .ge 22, 3) := by decide +kernel
theorem dX0_readString_74 : decode cX0_readString 74 = .ok (.aload_n 1, 1) := by decide +kernel
theorem dX0_readString_75 : decode cX0_readString 75 = .ok (.aload_n 0, 1) := by decide +kernel
theorem dX0_readString_76 : decode cX0_readString 76 = .ok (.getfield 9, 3) := by decide +kernel
theorem dX0_readString_79 : decode cX0_readString 79 = .ok (.iload 6, 2) := by decide +kernel
theorem dX0_readString_81 : decode cX0_readString 81 = .ok (.invokevirtual 69, 3) := by decide +kernel
theorem dX0_readString_84 : decode cX0_readString 84 = .ok (.invokevirtual 99, 3) := by decide +kernel
theorem dX0_readString_87 : decode cX0_readString 87 = .ok (.iinc 6 1, 3) := by decide +kernel
theorem dX0_readString_90 : decode cX0_readString 90 = .ok (.goto (-23), 3) := by decide +kernel
theorem dX0_readString_93 : decode cX0_readString 93 = .ok (.aload_n 1, 1) := by decide +kernel
theorem dX0_readString_94 : decode cX0_readString 94 = .ok (.bipush 6, 2) := by decide +kernel
theorem dX0_readString_96 : decode cX0_readString 96 = .ok (.sipush 400, 3) := by decide +kernel
theorem dX0_readString_99 : decode cX0_readString 99 = .ok (.invokevirtual 103, 3) := by decide +kernel
theorem dX0_readString_102 : decode cX0_readString 102 = .ok (.ireturn, 1) := by decide +kernel
theorem dX0_readRow_0 : decode cX0_readRow 0 = .ok (.aload_n 1, 1) := by decide +kernel
theorem dX0_readRow_1 : decode cX0_readRow 1 = .ok (.getfield 51, 3) := by decide +kernel
theorem dX0_readRow_4 : decode cX0_readRow 4 = .ok (.iconst 4, 1) := by decide +kernel
theorem dX0_readRow_5 : decode cX0_readRow 5 = .ok (.iadd, 1) := by decide +kernel
theorem dX0_readRow_6 : decode cX0_readRow 6 = .ok (.istore_n 2, 1) := by decide +kernel
theorem dX0_readRow_7 : decode cX0_readRow 7 = .ok (.aload_n 0, 1) := by decide +kernel
theorem dX0_readRow_8 : decode cX0_readRow 8 = .ok (.getfield 9, 3) := by decide +kernel
theorem dX0_readRow_11 : decode cX0_readRow 11 = .ok (.aload_n 1, 1) := by decide +kernel
theorem dX0_readRow_12 : decode cX0_readRow 12 = .ok (.getfield 51, 3) := by decide +kernel
theorem dX0_readRow_15 : decode cX0_readRow 15 = .ok (.iconst 1, 1) := by decide +kernel
theorem dX0_readRow_16 : decode cX0_readRow 16 = .ok (.iadd, 1) := by decide +kernel
theorem dX0_readRow_17 : decode cX0_readRow 17 = .ok (.invokevirtual 69, 3) := by decide +kernel
theorem dX0_readRow_20 : decode cX0_readRow 20 = .ok (.istore_n 3, 1) := by decide +kernel
theorem dX0_readRow_21 : decode cX0_readRow 21 = .ok (.iload_n 3, 1) := by decide +kernel
theorem dX0_readRow_22 : decode cX0_readRow 22 = .ok (.iconst (-1), 1) := by decide +kernel
theorem dX0_readRow_23 : decode cX0_readRow 23 = .ok (.if_icmp .eq 25, 3) := by decide +kernel
theorem dX0_readRow_26 : decode cX0_readRow 26 = .ok (.iload_n 3, 1) := by decide +kernel
theorem dX0_readRow_27 : decode cX0_readRow 27 = .ok (.bipush 127, 2) := by decide +kernel
theorem dX0_readRow_29 : decode cX0_readRow 29 = .ok (.iand, 1) := by decide +kernel
theorem dX0_readRow_30 : decode cX0_readRow 30 = .ok (.bipush 48, 2) := by decide +kernel
theorem dX0_readRow_32 : decode cX0_readRow 32 = .ok (.if_icmp .le 16, 3) := by decide +kernel
theorem dX0_readRow_35 : decode cX0_readRow 35 = .ok (.aload_n 1, 1) := by decide +kernel
theorem dX0_readRow_36 : decode cX0_readRow 36 = .ok (.bipush (-5), 2) := by decide +kernel
theorem dX0_readRow_38 : decode cX0_readRow 38 = .ok (.aload_n 1, 1) := by decide +kernel
theorem dX0_readRow_39 : decode cX0_readRow 39 = .ok (.getfield 51, 3) := by decide +kernel
theorem dX0_readRow_42 : decode cX0_readRow 42 = .ok (.iconst 1, 1) := by decide +kernel
theorem dX0_readRow_43 : decode cX0_readRow 43 = .ok (.iadd, 1) := by decide +kernel
theorem dX0_readRow_44 : decode cX0_readRow 44 = .ok (.invokevirtual 73, 3) := by decide +kernel
theorem dX0_readRow_47 : decode cX0_readRow 47 = .ok (.ireturn, 1) := by decide +kernel
theorem dX0_readRow_48 : decode cX0_readRow 48 = .ok (.aload_n 0, 1) := by decide +kernel
theorem dX0_readRow_49 : decode cX0_readRow 49 = .ok (.aload_n 1, 1) := by decide +kernel
theorem dX0_readRow_50 : decode cX0_readRow 50 = .ok (.iload_n 2, 1) := by decide +kernel
theorem dX0_readRow_51 : decode cX0_readRow 51 = .ok (.invokevirtual 54, 3) := by decide +kernel
theorem dX0_readRow_54 : decode cX0_readRow 54 = .ok (.ifCond .ne 12, 3) := by decide +kernel
theorem dX0_readRow_57 : decode cX0_readRow 57 = .ok (.aload_n 0, 1) := by decide +kernel
theorem dX0_readRow_58 : decode cX0_readRow 58 = .ok (.getfield 9, 3) := by decide +kernel
theorem dX0_readRow_61 : decode cX0_readRow 61 = .ok (.aload_n 1, 1) := by decide +kernel
theorem dX0_readRow_62 : decode cX0_readRow 62 = .ok (.invokevirtual 58, 3) := by decide +kernel
theorem dX0_readRow_65 : decode cX0_readRow 65 = .ok (.ireturn, 1) := by decide +kernel
theorem dX0_readRow_66 : decode cX0_readRow 66 = .ok (.aload_n 0, 1) := by decide +kernel
theorem dX0_readRow_67 : decode cX0_readRow 67 = .ok (.iload_n 2, 1) := by decide +kernel
theorem dX0_readRow_68 : decode cX0_readRow 68 = .ok (.iconst 2, 1) := by decide +kernel
theorem dX0_readRow_69 : decode cX0_readRow 69 = .ok (.isub, 1) := by decide +kernel
theorem dX0_readRow_70 : decode cX0_readRow 70 = .ok (.iconst 2, 1) := by decide +kernel
theorem dX0_readRow_71 : decode cX0_readRow 71 = .ok (.iload_n 3, 1) := by decide +kernel
theorem dX0_readRow_72 : decode cX0_readRow 72 = .ok (.sipush 128, 3) := by decide +kernel
theorem dX0_readRow_75 : decode cX0_readRow 75 = .ok (.if_icmp .lt 7, 3) := by decide +kernel
theorem dX0_readRow_78 : decode cX0_readRow 78 = .ok (.iconst 1, 1) := by decide +kernel
theorem dX0_readRow_79 : decode cX0_readRow 79 = .ok (.goto 4, 3) := by decide +kernel
theorem dX0_readRow_82 : decode cX0_readRow 82 = .ok (.iconst 0, 1) := by decide +kernel
theorem dX0_readRow_83 : decode cX0_readRow 83 = .ok (.invokevirtual 96, 3) := by decide +kernel
theorem dX0_readRow_86 : decode cX0_readRow 86 = .ok (.istore 4, 2) := by decide +kernel
theorem dX0_readRow_88 : decode cX0_readRow 88 = .ok (.aload_n 0, 1) := by decide +kernel
theorem dX0_readRow_89 : decode cX0_readRow 89 = .ok (.aload_n 1, 1) := by decide +kernel
theorem dX0_readRow_90 : decode cX0_readRow 90 = .ok (.iload_n 2, 1) := by decide +kernel
theorem dX0_readRow_91 : decode cX0_readRow 91 = .ok (.iload 4, 2) := by decide +kernel
theorem dX0_readRow_93 : decode cX0_readRow 93 = .ok (.iload_n 3, 1) := by decide +kernel
theorem dX0_readRow_94 : decode cX0_readRow 94 = .ok (.invokestatic 77, 3) := by decide +kernel
theorem dX0_readRow_97 : decode cX0_readRow 97 = .ok (.imul, 1) := by decide +kernel
theorem dX0_readRow_98 : decode cX0_readRow 98 = .ok (.iadd, 1) := by decide +kernel
theorem dX0_readRow_99 : decode cX0_readRow 99 = .ok (.invokevirtual 54, 3) := by decide +kernel
theorem dX0_readRow_102 : decode cX0_readRow 102 = .ok (.ifCond .ne 12, 3) := by decide +kernel
theorem dX0_readRow_105 : decode cX0_readRow 105 = .ok (.aload_n 0, 1) := by decide +kernel
theorem dX0_readRow_106 : decode cX0_readRow 106 = .ok (.getfield 9, 3) := by decide +kernel
theorem dX0_readRow_109 : decode cX0_readRow 109 = .ok (.aload_n 1, 1) := by decide +kernel
theorem dX0_readRow_110 : decode cX0_readRow 110 = .ok (.invokevirtual 58, 3) := by decide +kernel
theorem dX0_readRow_113 : decode cX0_readRow 113 = .ok (.ireturn, 1) := by decide +kernel
theorem dX0_readRow_114 : decode cX0_readRow 114 = .ok (.iload 4, 2) := by decide +kernel
theorem dX0_readRow_116 : decode cX0_readRow 116 = .ok (.bipush 60, 2) := by decide +kernel
theorem dX0_readRow_118 : decode cX0_readRow 118 = .ok (.if_icmp .le 8, 3) := by decide +kernel
theorem dX0_readRow_121 : decode cX0_readRow 121 = .ok (.bipush (-2), 2) := by decide +kernel
theorem dX0_readRow_123 : decode cX0_readRow 123 = .ok (.goto 12, 3) := by decide +kernel
theorem dX0_readRow_126 : decode cX0_readRow 126 = .ok (.aload_n 0, 1) := by decide +kernel
theorem dX0_readRow_127 : decode cX0_readRow 127 = .ok (.aload_n 1, 1) := by decide +kernel
theorem dX0_readRow_128 : decode cX0_readRow 128 = .ok (.iload_n 2, 1) := by decide +kernel
theorem dX0_readRow_129 : decode cX0_readRow 129 = .ok (.iload 4, 2) := by decide +kernel
theorem dX0_readRow_131 : decode cX0_readRow 131 = .ok (.iload_n 3, 1) := by decide +kernel
theorem dX0_readRow_132 : decode cX0_readRow 132 = .ok (.invokevirtual 106, 3) := by decide +kernel
theorem dX0_readRow_135 : decode cX0_readRow 135 = .ok (.ireturn, 1) := by decide +kernel
theorem dX0_fillRow_0 : decode cX0_fillRow 0 = .ok (.iload 4, 2) := by decide +kernel
theorem dX0_fillRow_2 : decode cX0_fillRow 2 = .ok (.invokestatic 77, 3) := by decide +kernel
theorem dX0_fillRow_5 : decode cX0_fillRow 5 = .ok (.istore 5, 2) := by decide +kernel
theorem dX0_fillRow_7 : decode cX0_fillRow 7 = .ok (.iload 4, 2) := by decide +kernel
theorem dX0_fillRow_9 : decode cX0_fillRow 9 = .ok (.bipush 127, 2) := by decide +kernel
theorem dX0_fillRow_11 : decode cX0_fillRow 11 = .ok (.iand, 1) := by decide +kernel
theorem dX0_fillRow_12 : decode cX0_fillRow 12 = .ok (.bipush 48, 2) := by decide +kernel
theorem dX0_fillRow_14 : decode cX0_fillRow 14 = .ok (.if_icmp .ne 7, 3) := by decide +kernel
theorem dX0_fillRow_17 : decode cX0_fillRow 17 = .ok (.iconst 1, 1) := by decide +kernel
theorem dX0_fillRow_18 : decode cX0_fillRow 18 = .ok (.goto 4, 3) := by decide +kernel
theorem dX0_fillRow_21 : decode cX0_fillRow 21 = .ok (.iconst 0, 1) := by decide +kernel
theorem dX0_fillRow_22 : decode cX0_fillRow 22 = .ok (.istore 6, 2) := by decide +kernel
theorem dX0_fillRow_24 : decode cX0_fillRow 24 = .ok (.iload 6, 2) := by decide +kernel
theorem dX0_fillRow_26 : decode cX0_fillRow 26 = .ok (.ifCond .ne 11, 3) := by decide +kernel
theorem dX0_fillRow_29 : decode cX0_fillRow 29 = .ok (.iload 4, 2) := by decide +kernel
theorem dX0_fillRow_31 : decode cX0_fillRow 31 = .ok (.bipush 31, 2) := by decide +kernel
theorem dX0_fillRow_33 : decode cX0_fillRow 33 = .ok (.iand, 1) := by decide +kernel
theorem dX0_fillRow_34 : decode cX0_fillRow 34 = .ok (.ifCond .eq 7, 3) := by decide +kernel
theorem dX0_fillRow_37 : decode cX0_fillRow 37 = .ok (.iconst 1, 1) := by decide +kernel
theorem dX0_fillRow_38 : decode cX0_fillRow 38 = .ok (.goto 4, 3) := by decide +kernel
theorem dX0_fillRow_41 : decode cX0_fillRow 41 = .ok (.iconst 0, 1) := by decide +kernel
theorem dX0_fillRow_42 : decode cX0_fillRow 42 = .ok (.istore 7, 2) := by decide +kernel
theorem dX0_fillRow_44 : decode cX0_fillRow 44 = .ok (.aload_n 1, 1) := by decide +kernel
theorem dX0_fillRow_45 : decode cX0_fillRow 45 = .ok (.iload 7, 2) := by decide +kernel
theorem dX0_fillRow_47 : decode cX0_fillRow 47 = .ok (.putfield 110, 3) := by decide +kernel
theorem dX0_fillRow_50 : decode cX0_fillRow 50 = .ok (.iconst 0, 1) := by decide +kernel
theorem dX0_fillRow_51 : decode cX0_fillRow 51 = .ok (.istore 8, 2) := by decide +kernel
theorem dX0_fillRow_53 : decode cX0_fillRow 53 = .ok (.iload 8, 2) := by decide +kernel
theorem dX0_fillRow_55 : decode cX0_fillRow 55 = .ok (.iload_n 3, 1) := by decide +kernel
theorem dX0_fillRow_56 : decode cX0_fillRow 56 = .ok (.if_icmp .ge 93, 3) := by decide +kernel
theorem dX0_fillRow_59 : decode cX0_fillRow 59 = .ok (.aload_n 0, 1) := by decide +kernel
theorem dX0_fillRow_60 : decode cX0_fillRow 60 = .ok (.iload_n 2, 1) := by decide +kernel
theorem dX0_fillRow_61 : decode cX0_fillRow 61 = .ok (.iload 8, 2) := by decide +kernel
theorem dX0_fillRow_63 : decode cX0_fillRow 63 = .ok (.iload 5, 2) := by decide +kernel
theorem dX0_fillRow_65 : decode cX0_fillRow 65 = .ok (.imul, 1) := by decide +kernel
theorem dX0_fillRow_66 : decode cX0_fillRow 66 = .ok (.iadd, 1) := by decide +kernel
theorem dX0_fillRow_67 : decode cX0_fillRow 67 = .ok (.iload 5, 2) := by decide +kernel
theorem dX0_fillRow_69 : decode cX0_fillRow 69 = .ok (.iload 4, 2) := by decide +kernel
theorem dX0_fillRow_71 : decode cX0_fillRow 71 = .ok (.sipush 128, 3) := by decide +kernel
theorem dX0_fillRow_74 : decode cX0_fillRow 74 = .ok (.if_icmp .lt 7, 3) := by decide +kernel
theorem dX0_fillRow_77 : decode cX0_fillRow 77 = .ok (.iconst 1, 1) := by decide +kernel
theorem dX0_fillRow_78 : decode cX0_fillRow 78 = .ok (.goto 4, 3) := by decide +kernel
theorem dX0_fillRow_81 : decode cX0_fillRow 81 = .ok (.iconst 0, 1) := by decide +kernel
theorem dX0_fillRow_82 : decode cX0_fillRow 82 = .ok (.invokevirtual 61, 3) := by decide +kernel
theorem dX0_fillRow_85 : decode cX0_fillRow 85 = .ok (.istore 9, 2) := by decide +kernel
theorem dX0_fillRow_87 : decode cX0_fillRow 87 = .ok (.iload 6, 2) := by decide +kernel
theorem dX0_fillRow_89 : decode cX0_fillRow 89 = .ok (.ifCond .eq 14, 3) := by decide +kernel
theorem dX0_fillRow_92 : decode cX0_fillRow 92 = .ok (.iload 9, 2) := by decide +kernel
theorem dX0_fillRow_94 : decode cX0_fillRow 94 = .ok (.invokestatic 88, 3) := by decide +kernel
theorem dX0_fillRow_97 : decode cX0_fillRow 97 = .ok (.ifCond .ne 6, 3) := by decide +kernel
theorem dX0_fillRow_100 : decode cX0_fillRow 100 = .ok (.bipush (-6), 2) := by decide +kernel
theorem dX0_fillRow_102 : decode cX0_fillRow 102 = .ok (.ireturn, 1) := by decide +kernel
theorem dX0_fillRow_103 : decode cX0_fillRow 103 = .ok (.iload 7, 2) := by decide +kernel
theorem dX0_fillRow_105 : decode cX0_fillRow 105 = .ok (.ifCond .eq 31, 3) := by decide +kernel
theorem dX0_fillRow_108 : decode cX0_fillRow 108 = .ok (.aload_n 1, 1) := by decide +kernel
theorem dX0_fillRow_109 : decode cX0_fillRow 109 = .ok (.iconst 0, 1) := by decide +kernel
theorem dX0_fillRow_110 : decode cX0_fillRow 110 = .ok (.iload 6, 2) := by decide +kernel
theorem dX0_fillRow_112 : decode cX0_fillRow 112 = .ok (.ifCond .eq 11, 3) := by decide +kernel
theorem dX0_fillRow_115 : decode cX0_fillRow 115 = .ok (.iload 9, 2) := by decide +kernel
theorem dX0_fillRow_117 : decode cX0_fillRow 117 = .ok (.invokestatic 92, 3) := by decide +kernel
theorem dX0_fillRow_120 : decode cX0_fillRow 120 = .ok (.goto 10, 3) := by decide +kernel
theorem dX0_fillRow_123 : decode cX0_fillRow 123 = .ok (.iload 9, 2) := by decide +kernel
theorem dX0_fillRow_125 : decode cX0_fillRow 125 = .ok (.iload 4, 2) := by decide +kernel
theorem dX0_fillRow_127 : decode cX0_fillRow 127 = .ok (.invokestatic 80, 3) := by decide +kernel
theorem dX0_fillRow_130 : decode cX0_fillRow 130 = .ok (.invokevirtual 114, 3) := by decide +kernel
theorem dX0_fillRow_133 : decode cX0_fillRow 133 = .ok (.goto 10, 3) := by decide +kernel
theorem dX0_fillRow_136 : decode cX0_fillRow 136 = .ok (.aload_n 1, 1) := by decide +kernel
theorem dX0_fillRow_137 : decode cX0_fillRow 137 = .ok (.iload 9, 2) := by decide +kernel
theorem dX0_fillRow_139 : decode cX0_fillRow 139 = .ok (.dconst 0, 1) := by decide +kernel
theorem dX0_fillRow_140 : decode cX0_fillRow 140 = .ok (.invokevirtual 114, 3) := by decide +kernel
theorem dX0_fillRow_143 : decode cX0_fillRow 143 = .ok (.iinc 8 1, 3) := by decide +kernel
theorem dX0_fillRow_146 : decode cX0_fillRow 146 = .ok (.goto (-93), 3) := by decide +kernel
theorem dX0_fillRow_149 : decode cX0_fillRow 149 = .ok (.aload_n 1, 1) := by decide +kernel
theorem dX0_fillRow_150 : decode cX0_fillRow 150 = .ok (.bipush 16, 2) := by decide +kernel
theorem dX0_fillRow_152 : decode cX0_fillRow 152 = .ok (.iload_n 3, 1) := by decide +kernel
theorem dX0_fillRow_153 : decode cX0_fillRow 153 = .ok (.i2l, 1) := by decide +kernel
theorem dX0_fillRow_154 : decode cX0_fillRow 154 = .ok (.invokevirtual 65, 3) := by decide +kernel
theorem dX0_fillRow_157 : decode cX0_fillRow 157 = .ok (.ireturn, 1) := by decide +kernel
theorem dX0_widthOf_0 : decode cX0_widthOf 0 = .ok (.iload_n 0, 1) := by decide +kernel
theorem dX0_widthOf_1 : decode cX0_widthOf 1 = .ok (.bipush 127, 2) := by decide +kernel
theorem dX0_widthOf_3 : decode cX0_widthOf 3 = .ok (.iand, 1) := by decide +kernel
theorem dX0_widthOf_4 : decode cX0_widthOf 4 = .ok (.istore_n 1, 1) := by decide +kernel
theorem dX0_widthOf_5 : decode cX0_widthOf 5 = .ok (.iload_n 1, 1) := by decide +kernel
theorem dX0_widthOf_6 : decode cX0_widthOf 6 = .ok (.bipush 32, 2) := by decide +kernel
theorem dX0_widthOf_8 : decode cX0_widthOf 8 = .ok (.if_icmp .lt 13, 3) := by decide +kernel
theorem dX0_widthOf_11 : decode cX0_widthOf 11 = .ok (.iload_n 1, 1) := by decide +kernel
theorem dX0_widthOf_12 : decode cX0_widthOf 12 = .ok (.bipush 48, 2) := by decide +kernel
theorem dX0_widthOf_14 : decode cX0_widthOf 14 = .ok (.if_icmp .ge 7, 3) := by decide +kernel
theorem dX0_widthOf_17 : decode cX0_widthOf 17 = .ok (.iconst 2, 1) := by decide +kernel
theorem dX0_widthOf_18 : decode cX0_widthOf 18 = .ok (.goto 4, 3) := by decide +kernel
theorem dX0_widthOf_21 : decode cX0_widthOf 21 = .ok (.iconst 4, 1) := by decide +kernel
theorem dX0_widthOf_22 : decode cX0_widthOf 22 = .ok (.ireturn, 1) := by decide +kernel
theorem dX0_fixedValue_0 : decode cX0_fixedValue 0 = .ok (.iload_n 0, 1) := by decide +kernel
theorem dX0_fixedValue_1 : decode cX0_fixedValue 1 = .ok (.i2d, 1) := by decide +kernel
theorem dX0_fixedValue_2 : decode cX0_fixedValue 2 = .ok (.ldc2_w 118, 3) := by decide +kernel
theorem dX0_fixedValue_5 : decode cX0_fixedValue 5 = .ok (.iload_n 1, 1) := by decide +kernel
theorem dX0_fixedValue_6 : decode cX0_fixedValue 6 = .ok (.bipush 31, 2) := by decide +kernel
theorem dX0_fixedValue_8 : decode cX0_fixedValue 8 = .ok (.iand, 1) := by decide +kernel
theorem dX0_fixedValue_9 : decode cX0_fixedValue 9 = .ok (.ineg, 1) := by decide +kernel
theorem dX0_fixedValue_10 : decode cX0_fixedValue 10 = .ok (.invokestatic 120, 3) := by decide +kernel
theorem dX0_fixedValue_13 : decode cX0_fixedValue 13 = .ok (.dreturn, 1) := by decide +kernel
theorem dX0_isFinite_0 : decode cX0_isFinite 0 = .ok (.iload_n 0, 1) := by decide +kernel
theorem dX0_isFinite_1 : decode cX0_isFinite 1 = .ok (.bipush 23, 2) := by decide +kernel
theorem dX0_isFinite_3 : decode cX0_isFinite 3 = .ok (.iushr, 1) := by decide +kernel
theorem dX0_isFinite_4 : decode cX0_isFinite 4 = .ok (.sipush 255, 3) := by decide +kernel
theorem dX0_isFinite_7 : decode cX0_isFinite 7 = .ok (.iand, 1) := by decide +kernel
theorem dX0_isFinite_8 : decode cX0_isFinite 8 = .ok (.sipush 255, 3) := by decide +kernel
theorem dX0_isFinite_11 : decode cX0_isFinite 11 = .ok (.if_icmp .eq 7, 3) := by decide +kernel
theorem dX0_isFinite_14 : decode cX0_isFinite 14 = .ok (.iconst 1, 1) := by decide +kernel
theorem dX0_isFinite_15 : decode cX0_isFinite 15 = .ok (.goto 4, 3) := by decide +kernel
theorem dX0_isFinite_18 : decode cX0_isFinite 18 = .ok (.iconst 0, 1) := by decide +kernel
theorem dX0_isFinite_19 : decode cX0_isFinite 19 = .ok (.ireturn, 1) := by decide +kernel
theorem dX0_floatValue_0 : decode cX0_floatValue 0 = .ok (.iload_n 0, 1) := by decide +kernel
theorem dX0_floatValue_1 : decode cX0_floatValue 1 = .ok (.bipush 23, 2) := by decide +kernel
theorem dX0_floatValue_3 : decode cX0_floatValue 3 = .ok (.iushr, 1) := by decide +kernel
theorem dX0_floatValue_4 : decode cX0_floatValue 4 = .ok (.sipush 255, 3) := by decide +kernel
theorem dX0_floatValue_7 : decode cX0_floatValue 7 = .ok (.iand, 1) := by decide +kernel
theorem dX0_floatValue_8 : decode cX0_floatValue 8 = .ok (.istore_n 1, 1) := by decide +kernel
theorem dX0_floatValue_9 : decode cX0_floatValue 9 = .ok (.iload_n 0, 1) := by decide +kernel
theorem dX0_floatValue_10 : decode cX0_floatValue 10 = .ok (.ldc 124, 2) := by decide +kernel
theorem dX0_floatValue_12 : decode cX0_floatValue 12 = .ok (.iand, 1) := by decide +kernel
theorem dX0_floatValue_13 : decode cX0_floatValue 13 = .ok (.istore_n 2, 1) := by decide +kernel
theorem dX0_floatValue_14 : decode cX0_floatValue 14 = .ok (.iload_n 1, 1) := by decide +kernel
theorem dX0_floatValue_15 : decode cX0_floatValue 15 = .ok (.ifCond .ne 17, 3) := by decide +kernel
theorem dX0_floatValue_18 : decode cX0_floatValue 18 = .ok (.iload_n 2, 1) := by decide +kernel
theorem dX0_floatValue_19 : decode cX0_floatValue 19 = .ok (.i2d, 1) := by decide +kernel
theorem dX0_floatValue_20 : decode cX0_floatValue 20 = .ok (.ldc2_w 118, 3) := by decide +kernel
theorem dX0_floatValue_23 : decode cX0_floatValue 23 = .ok (.sipush (-149), 3) := by decide +kernel
theorem dX0_floatValue_26 : decode cX0_floatValue 26 = .ok (.invokestatic 120, 3) := by decide +kernel
theorem dX0_floatValue_29 : decode cX0_floatValue 29 = .ok (.goto 19, 3) := by decide +kernel
theorem dX0_floatValue_32 : decode cX0_floatValue 32 = .ok (.ldc 125, 2) := by decide +kernel
theorem dX0_floatValue_34 : decode cX0_floatValue 34 = .ok (.iload_n 2, 1) := by decide +kernel
theorem dX0_floatValue_35 : decode cX0_floatValue 35 = .ok (.iadd, 1) := by decide +kernel
theorem dX0_floatValue_36 : decode cX0_floatValue 36 = .ok (.i2d, 1) := by decide +kernel
theorem dX0_floatValue_37 : decode cX0_floatValue 37 = .ok (.ldc2_w 118, 3) := by decide +kernel
theorem dX0_floatValue_40 : decode cX0_floatValue 40 = .ok (.iload_n 1, 1) := by decide +kernel
theorem dX0_floatValue_41 : decode cX0_floatValue 41 = .ok (.sipush 150, 3) := by decide +kernel
theorem dX0_floatValue_44 : decode cX0_floatValue 44 = .ok (.isub, 1) := by decide +kernel
theorem dX0_floatValue_45 : decode cX0_floatValue 45 = .ok (.invokestatic 120, 3) := by decide +kernel
theorem dX0_floatValue_48 : decode cX0_floatValue 48 = .ok (.dstore_n 3, 1) := by decide +kernel
theorem dX0_floatValue_49 : decode cX0_floatValue 49 = .ok (.iload_n 0, 1) := by decide +kernel
theorem dX0_floatValue_50 : decode cX0_floatValue 50 = .ok (.ifCond .ge 9, 3) := by decide +kernel
theorem dX0_floatValue_53 : decode cX0_floatValue 53 = .ok (.dconst 0, 1) := by decide +kernel
theorem dX0_floatValue_54 : decode cX0_floatValue 54 = .ok (.dload_n 3, 1) := by decide +kernel
theorem dX0_floatValue_55 : decode cX0_floatValue 55 = .ok (.dsub, 1) := by decide +kernel
theorem dX0_floatValue_56 : decode cX0_floatValue 56 = .ok (.goto 4, 3) := by decide +kernel
theorem dX0_floatValue_59 : decode cX0_floatValue 59 = .ok (.dload_n 3, 1) := by decide +kernel
theorem dX0_floatValue_60 : decode cX0_floatValue 60 = .ok (.dreturn, 1) := by decide +kernel
theorem dX0_countAt_0 : decode cX0_countAt 0 = .ok (.aload_n 0, 1) := by decide +kernel
theorem dX0_countAt_1 : decode cX0_countAt 1 = .ok (.iload_n 1, 1) := by decide +kernel
theorem dX0_countAt_2 : decode cX0_countAt 2 = .ok (.iload_n 2, 1) := by decide +kernel
theorem dX0_countAt_3 : decode cX0_countAt 3 = .ok (.iload_n 3, 1) := by decide +kernel
theorem dX0_countAt_4 : decode cX0_countAt 4 = .ok (.invokevirtual 61, 3) := by decide +kernel
theorem dX0_countAt_7 : decode cX0_countAt 7 = .ok (.iload_n 2, 1) := by decide +kernel
theorem dX0_countAt_8 : decode cX0_countAt 8 = .ok (.iconst 1, 1) := by decide +kernel
theorem dX0_countAt_9 : decode cX0_countAt 9 = .ok (.if_icmp .ne 9, 3) := by decide +kernel
theorem dX0_countAt_12 : decode cX0_countAt 12 = .ok (.sipush 255, 3) := by decide +kernel
theorem dX0_countAt_15 : decode cX0_countAt 15 = .ok (.goto 5, 3) := by decide +kernel
theorem dX0_countAt_18 : decode cX0_countAt 18 = .ok (.ldc 126, 2) := by decide +kernel
theorem dX0_countAt_20 : decode cX0_countAt 20 = .ok (.iand, 1) := by decide +kernel
theorem dX0_countAt_21 : decode cX0_countAt 21 = .ok (.ireturn, 1) := by decide +kernel
theorem dX0_signedAt_0 : decode cX0_signedAt 0 = .ok (.iconst 0, 1) := by decide +kernel
theorem dX0_signedAt_1 : decode cX0_signedAt 1 = .ok (.istore 4, 2) := by decide +kernel
theorem dX0_signedAt_3 : decode cX0_signedAt 3 = .ok (.iconst 0, 1) := by decide +kernel
theorem dX0_signedAt_4 : decode cX0_signedAt 4 = .ok (.istore 5, 2) := by decide +kernel
theorem dX0_signedAt_6 : decode cX0_signedAt 6 = .ok (.iload 5, 2) := by decide +kernel
theorem dX0_signedAt_8 : decode cX0_signedAt 8 = .ok (.iload_n 2, 1) := by decide +kernel
theorem dX0_signedAt_9 : decode cX0_signedAt 9 = .ok (.if_icmp .ge 43, 3) := by decide +kernel
theorem dX0_signedAt_12 : decode cX0_signedAt 12 = .ok (.iload 4, 2) := by decide +kernel
theorem dX0_signedAt_14 : decode cX0_signedAt 14 = .ok (.bipush 8, 2) := by decide +kernel
theorem dX0_signedAt_16 : decode cX0_signedAt 16 = .ok (.ishl, 1) := by decide +kernel
theorem dX0_signedAt_17 : decode cX0_signedAt 17 = .ok (.aload_n 0, 1) := by decide +kernel
theorem dX0_signedAt_18 : decode cX0_signedAt 18 = .ok (.getfield 9, 3) := by decide +kernel
theorem dX0_signedAt_21 : decode cX0_signedAt 21 = .ok (.iload_n 3, 1) := by decide +kernel
theorem dX0_signedAt_22 : decode cX0_signedAt 22 = .ok (.ifCond .eq 14, 3) := by decide +kernel
theorem dX0_signedAt_25 : decode cX0_signedAt 25 = .ok (.iload_n 1, 1) := by decide +kernel
theorem dX0_signedAt_26 : decode cX0_signedAt 26 = .ok (.iload_n 2, 1) := by decide +kernel
theorem dX0_signedAt_27 : decode cX0_signedAt 27 = .ok (.iadd, 1) := by decide +kernel
theorem dX0_signedAt_28 : decode cX0_signedAt 28 = .ok (.iconst 1, 1) := by decide +kernel
theorem dX0_signedAt_29 : decode cX0_signedAt 29 = .ok (.isub, 1) := by decide +kernel
theorem dX0_signedAt_30 : decode cX0_signedAt 30 = .ok (.iload 5, 2) := by decide +kernel
theorem dX0_signedAt_32 : decode cX0_signedAt 32 = .ok (.isub, 1) := by decide +kernel
theorem dX0_signedAt_33 : decode cX0_signedAt 33 = .ok (.goto 7, 3) := by decide +kernel
theorem dX0_signedAt_36 : decode cX0_signedAt 36 = .ok (.iload_n 1, 1) := by decide +kernel
theorem dX0_signedAt_37 : decode cX0_signedAt 37 = .ok (.iload 5, 2) := by decide +kernel
theorem dX0_signedAt_39 : decode cX0_signedAt 39 = .ok (.iadd, 1) := by decide +kernel
theorem dX0_signedAt_40 : decode cX0_signedAt 40 = .ok (.invokevirtual 69, 3) := by decide +kernel
theorem dX0_signedAt_43 : decode cX0_signedAt 43 = .ok (.ior, 1) := by decide +kernel
theorem dX0_signedAt_44 : decode cX0_signedAt 44 = .ok (.istore 4, 2) := by decide +kernel
theorem dX0_signedAt_46 : decode cX0_signedAt 46 = .ok (.iinc 5 1, 3) := by decide +kernel
theorem dX0_signedAt_49 : decode cX0_signedAt 49 = .ok (.goto (-43), 3) := by decide +kernel
theorem dX0_signedAt_52 : decode cX0_signedAt 52 = .ok (.bipush 32, 2) := by decide +kernel
theorem dX0_signedAt_54 : decode cX0_signedAt 54 = .ok (.bipush 8, 2) := by decide +kernel
theorem dX0_signedAt_56 : decode cX0_signedAt 56 = .ok (.iload_n 2, 1) := by decide +kernel
theorem dX0_signedAt_57 : decode cX0_signedAt 57 = .ok (.imul, 1) := by decide +kernel
theorem dX0_signedAt_58 : decode cX0_signedAt 58 = .ok (.isub, 1) := by decide +kernel
theorem dX0_signedAt_59 : decode cX0_signedAt 59 = .ok (.istore 5, 2) := by decide +kernel
theorem dX0_signedAt_61 : decode cX0_signedAt 61 = .ok (.iload 4, 2) := by decide +kernel
theorem dX0_signedAt_63 : decode cX0_signedAt 63 = .ok (.iload 5, 2) := by decide +kernel
theorem dX0_signedAt_65 : decode cX0_signedAt 65 = .ok (.ishl, 1) := by decide +kernel
theorem dX0_signedAt_66 : decode cX0_signedAt 66 = .ok (.iload 5, 2) := by decide +kernel
theorem dX0_signedAt_68 : decode cX0_signedAt 68 = .ok (.ishr, 1) := by decide +kernel
theorem dX0_signedAt_69 : decode cX0_signedAt 69 = .ok (.ireturn, 1) := by decide +kernel
theorem dX1_init_0 : decode cX1_init 0 = .ok (.aload_n 0, 1) := by decide +kernel
theorem dX1_init_1 : decode cX1_init 1 = .ok (.invokespecial 3, 3) := by decide +kernel
theorem dX1_init_4 : decode cX1_init 4 = .ok (.aload_n 0, 1) := by decide +kernel
theorem dX1_init_5 : decode cX1_init 5 = .ok (.sipush 3000, 3) := by decide +kernel
theorem dX1_init_8 : decode cX1_init 8 = .ok (.newarray .byte, 2) := by decide +kernel
theorem dX1_init_10 : decode cX1_init 10 = .ok (.putfield 9, 3) := by decide +kernel
theorem dX1_init_13 : decode cX1_init 13 = .ok (.return_, 1) := by decide +kernel
theorem dX1_append_0 : decode cX1_append 0 = .ok (.aload_n 0, 1) := by decide +kernel
theorem dX1_append_1 : decode cX1_append 1 = .ok (.getfield 15, 3) := by decide +kernel
theorem dX1_append_4 : decode cX1_append 4 = .ok (.aload_n 0, 1) := by decide +kernel
theorem dX1_append_5 : decode cX1_append 5 = .ok (.getfield 9, 3) := by decide +kernel
theorem dX1_append_8 : decode cX1_append 8 = .ok (.arraylength, 1) := by decide +kernel
theorem dX1_append_9 : decode cX1_append 9 = .ok (.if_icmp .lt 5, 3) := by decide +kernel
theorem dX1_append_12 : decode cX1_append 12 = .ok (.iconst 0, 1) := by decide +kernel
theorem dX1_append_13 : decode cX1_append 13 = .ok (.ireturn, 1) := by decide +kernel
theorem dX1_append_14 : decode cX1_append 14 = .ok (.aload_n 0, 1) := by decide +kernel
theorem dX1_append_15 : decode cX1_append 15 = .ok (.getfield 9, 3) := by decide +kernel
theorem dX1_append_18 : decode cX1_append 18 = .ok (.aload_n 0, 1) := by decide +kernel
theorem dX1_append_19 : decode cX1_append 19 = .ok (.getfield 15, 3) := by decide +kernel
theorem dX1_append_22 : decode cX1_append 22 = .ok (.iload_n 1, 1) := by decide +kernel
theorem dX1_append_23 : decode cX1_append 23 = .ok (.bastore, 1) := by decide +kernel
theorem dX1_append_24 : decode cX1_append 24 = .ok (.aload_n 0, 1) := by decide +kernel
theorem dX1_append_25 : decode cX1_append 25 = .ok (.dup, 1) := by decide +kernel
theorem dX1_append_26 : decode cX1_append 26 = .ok (.getfield 15, 3) := by decide +kernel
theorem dX1_append_29 : decode cX1_append 29 = .ok (.iconst 1, 1) := by decide +kernel
theorem dX1_append_30 : decode cX1_append 30 = .ok (.iadd, 1) := by decide +kernel
theorem dX1_append_31 : decode cX1_append 31 = .ok (.putfield 15, 3) := by decide +kernel
theorem dX1_append_34 : decode cX1_append 34 = .ok (.iconst 1, 1) := by decide +kernel
theorem dX1_append_35 : decode cX1_append 35 = .ok (.ireturn, 1) := by decide +kernel
theorem dX1_forget_0 : decode cX1_forget 0 = .ok (.aload_n 0, 1) := by decide +kernel
theorem dX1_forget_1 : decode cX1_forget 1 = .ok (.iconst 0, 1) := by decide +kernel
theorem dX1_forget_2 : decode cX1_forget 2 = .ok (.putfield 15, 3) := by decide +kernel
theorem dX1_forget_5 : decode cX1_forget 5 = .ok (.aload_n 0, 1) := by decide +kernel
theorem dX1_forget_6 : decode cX1_forget 6 = .ok (.iconst 0, 1) := by decide +kernel
theorem dX1_forget_7 : decode cX1_forget 7 = .ok (.putfield 19, 3) := by decide +kernel
theorem dX1_forget_10 : decode cX1_forget 10 = .ok (.aload_n 0, 1) := by decide +kernel
theorem dX1_forget_11 : decode cX1_forget 11 = .ok (.iconst 0, 1) := by decide +kernel
theorem dX1_forget_12 : decode cX1_forget 12 = .ok (.putfield 22, 3) := by decide +kernel
theorem dX1_forget_15 : decode cX1_forget 15 = .ok (.return_, 1) := by decide +kernel
theorem dX1_has_0 : decode cX1_has 0 = .ok (.iload_n 1, 1) := by decide +kernel
theorem dX1_has_1 : decode cX1_has 1 = .ok (.ifCond .lt 15, 3) := by decide +kernel
theorem dX1_has_4 : decode cX1_has 4 = .ok (.iload_n 1, 1) := by decide +kernel
theorem dX1_has_5 : decode cX1_has 5 = .ok (.aload_n 0, 1) := by decide +kernel
theorem dX1_has_6 : decode cX1_has 6 = .ok (.getfield 15, 3) := by decide +kernel
theorem dX1_has_9 : decode cX1_has 9 = .ok (.if_icmp .ge 7, 3) := by decide +kernel
theorem dX1_has_12 : decode cX1_has 12 = .ok (.iconst 1, 1) := by decide +kernel
theorem dX1_has_13 : decode cX1_has 13 = .ok (.goto 4, 3) := by decide +kernel
theorem dX1_has_16 : decode cX1_has 16 = .ok (.iconst 0, 1) := by decide +kernel
theorem dX1_has_17 : decode cX1_has 17 = .ok (.ireturn, 1) := by decide +kernel
theorem dX1_at_0 : decode cX1_at 0 = .ok (.aload_n 0, 1) := by decide +kernel
theorem dX1_at_1 : decode cX1_at 1 = .ok (.iload_n 1, 1) := by decide +kernel
theorem dX1_at_2 : decode cX1_at 2 = .ok (.invokevirtual 26, 3) := by decide +kernel
theorem dX1_at_5 : decode cX1_at 5 = .ok (.ifCond .eq 16, 3) := by decide +kernel
theorem dX1_at_8 : decode cX1_at 8 = .ok (.aload_n 0, 1) := by decide +kernel
theorem dX1_at_9 : decode cX1_at 9 = .ok (.getfield 9, 3) := by decide +kernel
theorem dX1_at_12 : decode cX1_at 12 = .ok (.iload_n 1, 1) := by decide +kernel
theorem dX1_at_13 : decode cX1_at 13 = .ok (.baload, 1) := by decide +kernel
theorem dX1_at_14 : decode cX1_at 14 = .ok (.sipush 255, 3) := by decide +kernel
theorem dX1_at_17 : decode cX1_at 17 = .ok (.iand, 1) := by decide +kernel
theorem dX1_at_18 : decode cX1_at 18 = .ok (.goto 4, 3) := by decide +kernel
theorem dX1_at_21 : decode cX1_at 21 = .ok (.iconst (-1), 1) := by decide +kernel
theorem dX1_at_22 : decode cX1_at 22 = .ok (.ireturn, 1) := by decide +kernel
theorem dX1_firstNotWhite_0 : decode cX1_firstNotWhite 0 = .ok (.iconst 0, 1) := by decide +kernel
theorem dX1_firstNotWhite_1 : decode cX1_firstNotWhite 1 = .ok (.istore_n 1, 1) := by decide +kernel
theorem dX1_firstNotWhite_2 : decode cX1_firstNotWhite 2 = .ok (.aload_n 0, 1) := by decide +kernel
theorem dX1_firstNotWhite_3 : decode cX1_firstNotWhite 3 = .ok (.getfield 19, 3) := by decide +kernel
theorem dX1_firstNotWhite_6 : decode cX1_firstNotWhite 6 = .ok (.istore_n 2, 1) := by decide +kernel
theorem dX1_firstNotWhite_7 : decode cX1_firstNotWhite 7 = .ok (.iload_n 2, 1) := by decide +kernel
theorem dX1_firstNotWhite_8 : decode cX1_firstNotWhite 8 = .ok (.aload_n 0, 1) := by decide +kernel
theorem dX1_firstNotWhite_9 : decode cX1_firstNotWhite 9 = .ok (.getfield 15, 3) := by decide +kernel
theorem dX1_firstNotWhite_12 : decode cX1_firstNotWhite 12 = .ok (.if_icmp .ge 70, 3) := by decide +kernel
theorem dX1_firstNotWhite_15 : decode cX1_firstNotWhite 15 = .ok (.aload_n 0, 1) := by decide +kernel
theorem dX1_firstNotWhite_16 : decode cX1_firstNotWhite 16 = .ok (.iload_n 2, 1) := by decide +kernel
theorem dX1_firstNotWhite_17 : decode cX1_firstNotWhite 17 = .ok (.invokevirtual 30, 3) := by decide +kernel
theorem dX1_firstNotWhite_20 : decode cX1_firstNotWhite 20 = .ok (.istore_n 3, 1) := by decide +kernel
theorem dX1_firstNotWhite_21 : decode cX1_firstNotWhite 21 = .ok (.iload_n 1, 1) := by decide +kernel
theorem dX1_firstNotWhite_22 : decode cX1_firstNotWhite 22 = .ok (.ifCond .eq 29, 3) := by decide +kernel
theorem dX1_firstNotWhite_25 : decode cX1_firstNotWhite 25 = .ok (.iload_n 3, 1) := by decide +kernel
theorem dX1_firstNotWhite_26 : decode cX1_firstNotWhite 26 = .ok (.bipush 10, 2) := by decide +kernel
theorem dX1_firstNotWhite_28 : decode cX1_firstNotWhite 28 = .ok (.if_icmp .eq 19, 3) := by decide +kernel
theorem dX1_firstNotWhite_31 : decode cX1_firstNotWhite 31 = .ok (.iload_n 3, 1) := by decide +kernel
theorem dX1_firstNotWhite_32 : decode cX1_firstNotWhite 32 = .ok (.bipush 12, 2) := by decide +kernel
theorem dX1_firstNotWhite_34 : decode cX1_firstNotWhite 34 = .ok (.if_icmp .eq 13, 3) := by decide +kernel
theorem dX1_firstNotWhite_37 : decode cX1_firstNotWhite 37 = .ok (.iload_n 3, 1) := by decide +kernel
theorem dX1_firstNotWhite_38 : decode cX1_firstNotWhite 38 = .ok (.bipush 13, 2) := by decide +kernel
theorem dX1_firstNotWhite_40 : decode cX1_firstNotWhite 40 = .ok (.if_icmp .eq 7, 3) := by decide +kernel
theorem dX1_firstNotWhite_43 : decode cX1_firstNotWhite 43 = .ok (.iconst 1, 1) := by decide +kernel
theorem dX1_firstNotWhite_44 : decode cX1_firstNotWhite 44 = .ok (.goto 18, 3) := by decide +kernel
theorem dX1_firstNotWhite_47 : decode cX1_firstNotWhite 47 = .ok (.iconst 0, 1) := by decide +kernel
theorem dX1_firstNotWhite_48 : decode cX1_firstNotWhite 48 = .ok (.goto 14, 3) := by decide +kernel
theorem dX1_firstNotWhite_51 : decode cX1_firstNotWhite 51 = .ok (.iload_n 3, 1) := by decide +kernel
theorem dX1_firstNotWhite_52 : decode cX1_firstNotWhite 52 = .ok (.bipush 37, 2) := by decide +kernel
theorem dX1_firstNotWhite_54 : decode cX1_firstNotWhite 54 = .ok (.if_icmp .ne 7, 3) := by decide +kernel
theorem dX1_firstNotWhite_57 : decode cX1_firstNotWhite 57 = .ok (.iconst 1, 1) := by decide +kernel
theorem dX1_firstNotWhite_58 : decode cX1_firstNotWhite 58 = .ok (.goto 4, 3) := by decide +kernel
theorem dX1_firstNotWhite_61 : decode cX1_firstNotWhite 61 = .ok (.iconst 0, 1) := by decide +kernel
theorem dX1_firstNotWhite_62 : decode cX1_firstNotWhite 62 = .ok (.istore_n 1, 1) := by decide +kernel
theorem dX1_firstNotWhite_63 : decode cX1_firstNotWhite 63 = .ok (.iload_n 1, 1) := by decide +kernel
theorem dX1_firstNotWhite_64 : decode cX1_firstNotWhite 64 = .ok (.ifCond .ne 12, 3) := by decide +kernel
theorem dX1_firstNotWhite_67 : decode cX1_firstNotWhite 67 = .ok (.iload_n 3, 1) := by decide +kernel
theorem dX1_firstNotWhite_68 : decode cX1_firstNotWhite 68 = .ok (.invokestatic 34, 3) := by decide +kernel
theorem dX1_firstNotWhite_71 : decode cX1_firstNotWhite 71 = .ok (.ifCond .ne 5, 3) := by decide +kernel
theorem dX1_firstNotWhite_74 : decode cX1_firstNotWhite 74 = .ok (.iload_n 2, 1) := by decide +kernel
theorem dX1_firstNotWhite_75 : decode cX1_firstNotWhite 75 = .ok (.ireturn, 1) := by decide +kernel
theorem dX1_firstNotWhite_76 : decode cX1_firstNotWhite 76 = .ok (.iinc 2 1, 3) := by decide +kernel
theorem dX1_firstNotWhite_79 : decode cX1_firstNotWhite 79 = .ok (.goto (-72), 3) := by decide +kernel
theorem dX1_firstNotWhite_82 : decode cX1_firstNotWhite 82 = .ok (.aload_n 0, 1) := by decide +kernel
theorem dX1_firstNotWhite_83 : decode cX1_firstNotWhite 83 = .ok (.getfield 15, 3) := by decide +kernel
theorem dX1_firstNotWhite_86 : decode cX1_firstNotWhite 86 = .ok (.ireturn, 1) := by decide +kernel
theorem dX1_wordEnd_0 : decode cX1_wordEnd 0 = .ok (.iload_n 1, 1) := by decide +kernel
theorem dX1_wordEnd_1 : decode cX1_wordEnd 1 = .ok (.istore_n 2, 1) := by decide +kernel
theorem dX1_wordEnd_2 : decode cX1_wordEnd 2 = .ok (.iload_n 2, 1) := by decide +kernel
theorem dX1_wordEnd_3 : decode cX1_wordEnd 3 = .ok (.aload_n 0, 1) := by decide +kernel
theorem dX1_wordEnd_4 : decode cX1_wordEnd 4 = .ok (.getfield 15, 3) := by decide +kernel
theorem dX1_wordEnd_7 : decode cX1_wordEnd 7 = .ok (.if_icmp .ge 22, 3) := by decide +kernel
theorem dX1_wordEnd_10 : decode cX1_wordEnd 10 = .ok (.aload_n 0, 1) := by decide +kernel
theorem dX1_wordEnd_11 : decode cX1_wordEnd 11 = .ok (.iload_n 2, 1) := by decide +kernel
theorem dX1_wordEnd_12 : decode cX1_wordEnd 12 = .ok (.invokevirtual 30, 3) := by decide +kernel
theorem dX1_wordEnd_15 : decode cX1_wordEnd 15 = .ok (.invokestatic 37, 3) := by decide +kernel
theorem dX1_wordEnd_18 : decode cX1_wordEnd 18 = .ok (.ifCond .ne 5, 3) := by decide +kernel
theorem dX1_wordEnd_21 : decode cX1_wordEnd 21 = .ok (.iload_n 2, 1) := by decide +kernel
theorem dX1_wordEnd_22 : decode cX1_wordEnd 22 = .ok (.ireturn, 1) := by decide +kernel
theorem dX1_wordEnd_23 : decode cX1_wordEnd 23 = .ok (.iinc 2 1, 3) := by decide +kernel
theorem dX1_wordEnd_26 : decode cX1_wordEnd 26 = .ok (.goto (-24), 3) := by decide +kernel
theorem dX1_wordEnd_29 : decode cX1_wordEnd 29 = .ok (.aload_n 0, 1) := by decide +kernel
theorem dX1_wordEnd_30 : decode cX1_wordEnd 30 = .ok (.getfield 15, 3) := by decide +kernel
theorem dX1_wordEnd_33 : decode cX1_wordEnd 33 = .ok (.ireturn, 1) := by decide +kernel
theorem dX1_lacking_0 : decode cX1_lacking 0 = .ok (.aload_n 0, 1) := by decide +kernel
theorem dX1_lacking_1 : decode cX1_lacking 1 = .ok (.getfield 22, 3) := by decide +kernel
theorem dX1_lacking_4 : decode cX1_lacking 4 = .ok (.ifCond .ne 5, 3) := by decide +kernel
theorem dX1_lacking_7 : decode cX1_lacking 7 = .ok (.iconst 0, 1) := by decide +kernel
theorem dX1_lacking_8 : decode cX1_lacking 8 = .ok (.ireturn, 1) := by decide +kernel
theorem dX1_lacking_9 : decode cX1_lacking 9 = .ok (.aload_n 1, 1) := by decide +kernel
theorem dX1_lacking_10 : decode cX1_lacking 10 = .ok (.aload_n 0, 1) := by decide +kernel
theorem dX1_lacking_11 : decode cX1_lacking 11 = .ok (.getfield 15, 3) := by decide +kernel
theorem dX1_lacking_14 : decode cX1_lacking 14 = .ok (.putfield 40, 3) := by decide +kernel
theorem dX1_lacking_17 : decode cX1_lacking 17 = .ok (.bipush (-7), 2) := by decide +kernel
theorem dX1_lacking_19 : decode cX1_lacking 19 = .ok (.ireturn, 1) := by decide +kernel
theorem dX1_isWhite_0 : decode cX1_isWhite 0 = .ok (.iload_n 0, 1) := by decide +kernel
theorem dX1_isWhite_1 : decode cX1_isWhite 1 = .ok (.ifCond .eq 33, 3) := by decide +kernel
theorem dX1_isWhite_4 : decode cX1_isWhite 4 = .ok (.iload_n 0, 1) := by decide +kernel
theorem dX1_isWhite_5 : decode cX1_isWhite 5 = .ok (.bipush 9, 2) := by decide +kernel
theorem dX1_isWhite_7 : decode cX1_isWhite 7 = .ok (.if_icmp .eq 27, 3) := by decide +kernel
theorem dX1_isWhite_10 : decode cX1_isWhite 10 = .ok (.iload_n 0, 1) := by decide +kernel
theorem dX1_isWhite_11 : decode cX1_isWhite 11 = .ok (.bipush 10, 2) := by decide +kernel
theorem dX1_isWhite_13 : decode cX1_isWhite 13 = .ok (.if_icmp .eq 21, 3) := by decide +kernel
theorem dX1_isWhite_16 : decode cX1_isWhite 16 = .ok (.iload_n 0, 1) := by decide +kernel
theorem dX1_isWhite_17 : decode cX1_isWhite 17 = .ok (.bipush 12, 2) := by decide +kernel
theorem dX1_isWhite_19 : decode cX1_isWhite 19 = .ok (.if_icmp .eq 15, 3) := by decide +kernel
theorem dX1_isWhite_22 : decode cX1_isWhite 22 = .ok (.iload_n 0, 1) := by decide +kernel
theorem dX1_isWhite_23 : decode cX1_isWhite 23 = .ok (.bipush 13, 2) := by decide +kernel
theorem dX1_isWhite_25 : decode cX1_isWhite 25 = .ok (.if_icmp .eq 9, 3) := by decide +kernel
theorem dX1_isWhite_28 : decode cX1_isWhite 28 = .ok (.iload_n 0, 1) := by decide +kernel
theorem dX1_isWhite_29 : decode cX1_isWhite 29 = .ok (.bipush 32, 2) := by decide +kernel
theorem dX1_isWhite_31 : decode cX1_isWhite 31 = .ok (.if_icmp .ne 7, 3) := by decide +kernel
theorem dX1_isWhite_34 : decode cX1_isWhite 34 = .ok (.iconst 1, 1) := by decide +kernel
theorem dX1_isWhite_35 : decode cX1_isWhite 35 = .ok (.goto 4, 3) := by decide +kernel
theorem dX1_isWhite_38 : decode cX1_isWhite 38 = .ok (.iconst 0, 1) := by decide +kernel
theorem dX1_isWhite_39 : decode cX1_isWhite 39 = .ok (.ireturn, 1) := by decide +kernel
theorem dX1_isOwn_0 : decode cX1_isOwn 0 = .ok (.iload_n 0, 1) := by decide +kernel
theorem dX1_isOwn_1 : decode cX1_isOwn 1 = .ok (.lookupswitch 93 #[(37, 91), (40, 91), (41, 91), (47, 91), (60, 91), (62, 91), (91, 91), (93, 91), (123, 91), (125, 91)], 91) := by decide +kernel
theorem dX1_isOwn_92 : decode cX1_isOwn 92 = .ok (.iconst 1, 1) := by decide +kernel
theorem dX1_isOwn_93 : decode cX1_isOwn 93 = .ok (.ireturn, 1) := by decide +kernel
theorem dX1_isOwn_94 : decode cX1_isOwn 94 = .ok (.iconst 0, 1) := by decide +kernel
theorem dX1_isOwn_95 : decode cX1_isOwn 95 = .ok (.ireturn, 1) := by decide +kernel
theorem dX1_isPlain_0 : decode cX1_isPlain 0 = .ok (.iload_n 0, 1) := by decide +kernel
theorem dX1_isPlain_1 : decode cX1_isPlain 1 = .ok (.sipush 159, 3) := by decide +kernel
theorem dX1_isPlain_4 : decode cX1_isPlain 4 = .ok (.if_icmp .gt 24, 3) := by decide +kernel
theorem dX1_isPlain_7 : decode cX1_isPlain 7 = .ok (.iload_n 0, 1) := by decide +kernel
theorem dX1_isPlain_8 : decode cX1_isPlain 8 = .ok (.sipush 128, 3) := by decide +kernel
theorem dX1_isPlain_11 : decode cX1_isPlain 11 = .ok (.if_icmp .ge 21, 3) := by decide +kernel
theorem dX1_isPlain_14 : decode cX1_isPlain 14 = .ok (.iload_n 0, 1) := by decide +kernel
theorem dX1_isPlain_15 : decode cX1_isPlain 15 = .ok (.invokestatic 34, 3) := by decide +kernel
theorem dX1_isPlain_18 : decode cX1_isPlain 18 = .ok (.ifCond .ne 14, 3) := by decide +kernel
theorem dX1_isPlain_21 : decode cX1_isPlain 21 = .ok (.iload_n 0, 1) := by decide +kernel
theorem dX1_isPlain_22 : decode cX1_isPlain 22 = .ok (.invokestatic 45, 3) := by decide +kernel
theorem dX1_isPlain_25 : decode cX1_isPlain 25 = .ok (.ifCond .ne 7, 3) := by decide +kernel
theorem dX1_isPlain_28 : decode cX1_isPlain 28 = .ok (.iconst 1, 1) := by decide +kernel
theorem dX1_isPlain_29 : decode cX1_isPlain 29 = .ok (.goto 4, 3) := by decide +kernel
theorem dX1_isPlain_32 : decode cX1_isPlain 32 = .ok (.iconst 0, 1) := by decide +kernel
theorem dX1_isPlain_33 : decode cX1_isPlain 33 = .ok (.ireturn, 1) := by decide +kernel
theorem dX2_init_0 : decode cX2_init 0 = .ok (.aload_n 0, 1) := by decide +kernel
theorem dX2_init_1 : decode cX2_init 1 = .ok (.invokespecial 3, 3) := by decide +kernel
theorem dX2_init_4 : decode cX2_init 4 = .ok (.aload_n 0, 1) := by decide +kernel
theorem dX2_init_5 : decode cX2_init 5 = .ok (.aload_n 1, 1) := by decide +kernel
theorem dX2_init_6 : decode cX2_init 6 = .ok (.putfield 9, 3) := by decide +kernel
theorem dX2_init_9 : decode cX2_init 9 = .ok (.return_, 1) := by decide +kernel
theorem dX2_readRound_0 : decode cX2_readRound 0 = .ok (.iconst 1, 1) := by decide +kernel
theorem dX2_readRound_1 : decode cX2_readRound 1 = .ok (.istore_n 2, 1) := by decide +kernel
theorem dX2_readRound_2 : decode cX2_readRound 2 = .ok (.aload_n 1, 1) := by decide +kernel
theorem dX2_readRound_3 : decode cX2_readRound 3 = .ok (.getfield 15, 3) := by decide +kernel
theorem dX2_readRound_6 : decode cX2_readRound 6 = .ok (.iconst 1, 1) := by decide +kernel
theorem dX2_readRound_7 : decode cX2_readRound 7 = .ok (.iadd, 1) := by decide +kernel
theorem dX2_readRound_8 : decode cX2_readRound 8 = .ok (.istore_n 3, 1) := by decide +kernel
theorem dX2_readRound_9 : decode cX2_readRound 9 = .ok (.iload_n 3, 1) := by decide +kernel
theorem dX2_readRound_10 : decode cX2_readRound 10 = .ok (.aload_n 0, 1) := by decide +kernel
theorem dX2_readRound_11 : decode cX2_readRound 11 = .ok (.getfield 9, 3) := by decide +kernel
theorem dX2_readRound_14 : decode cX2_readRound 14 = .ok (.getfield 21, 3) := by decide +kernel
theorem dX2_readRound_17 : decode cX2_readRound 17 = .ok (.if_icmp .ge 63, 3) := by decide +kernel
theorem dX2_readRound_20 : decode cX2_readRound 20 = .ok (.aload_n 0, 1) := by decide +kernel
theorem dX2_readRound_21 : decode cX2_readRound 21 = .ok (.getfield 9, 3) := by decide +kernel
theorem dX2_readRound_24 : decode cX2_readRound 24 = .ok (.iload_n 3, 1) := by decide +kernel
theorem dX2_readRound_25 : decode cX2_readRound 25 = .ok (.invokevirtual 26, 3) := by decide +kernel
theorem dX2_readRound_28 : decode cX2_readRound 28 = .ok (.istore 4, 2) := by decide +kernel
theorem dX2_readRound_30 : decode cX2_readRound 30 = .ok (.iload 4, 2) := by decide +kernel
theorem dX2_readRound_32 : decode cX2_readRound 32 = .ok (.bipush 40, 2) := by decide +kernel
theorem dX2_readRound_34 : decode cX2_readRound 34 = .ok (.if_icmp .ne 6, 3) := by decide +kernel
theorem dX2_readRound_37 : decode cX2_readRound 37 = .ok (.iinc 2 1, 3) := by decide +kernel
theorem dX2_readRound_40 : decode cX2_readRound 40 = .ok (.iload 4, 2) := by decide +kernel
theorem dX2_readRound_42 : decode cX2_readRound 42 = .ok (.bipush 41, 2) := by decide +kernel
theorem dX2_readRound_44 : decode cX2_readRound 44 = .ok (.if_icmp .ne 6, 3) := by decide +kernel
theorem dX2_readRound_47 : decode cX2_readRound 47 = .ok (.iinc 2 (-1), 3) := by decide +kernel
theorem dX2_readRound_50 : decode cX2_readRound 50 = .ok (.iload_n 2, 1) := by decide +kernel
theorem dX2_readRound_51 : decode cX2_readRound 51 = .ok (.ifCond .ne 11, 3) := by decide +kernel
theorem dX2_readRound_54 : decode cX2_readRound 54 = .ok (.aload_n 1, 1) := by decide +kernel
theorem dX2_readRound_55 : decode cX2_readRound 55 = .ok (.iload_n 3, 1) := by decide +kernel
theorem dX2_readRound_56 : decode cX2_readRound 56 = .ok (.iconst 1, 1) := by decide +kernel
theorem dX2_readRound_57 : decode cX2_readRound 57 = .ok (.iadd, 1) := by decide +kernel
theorem dX2_readRound_58 : decode cX2_readRound 58 = .ok (.invokestatic 30, 3) := by decide +kernel
theorem dX2_readRound_61 : decode cX2_readRound 61 = .ok (.ireturn, 1) := by decide +kernel
theorem dX2_readRound_62 : decode cX2_readRound 62 = .ok (.iload_n 3, 1) := by decide +kernel
theorem dX2_readRound_63 : decode cX2_readRound 63 = .ok (.iconst 1, 1) := by decide +kernel
theorem dX2_readRound_64 : decode cX2_readRound 64 = .ok (.aload_n 0, 1) := by decide +kernel
theorem dX2_readRound_65 : decode cX2_readRound 65 = .ok (.aload_n 1, 1) := by decide +kernel
theorem dX2_readRound_66 : decode cX2_readRound 66 = .ok (.iload_n 3, 1) := by decide +kernel
theorem dX2_readRound_67 : decode cX2_readRound 67 = .ok (.iload 4, 2) := by decide +kernel
theorem dX2_readRound_69 : decode cX2_readRound 69 = .ok (.invokevirtual 34, 3) := by decide +kernel
theorem dX2_readRound_72 : decode cX2_readRound 72 = .ok (.invokestatic 38, 3) := by decide +kernel
theorem dX2_readRound_75 : decode cX2_readRound 75 = .ok (.iadd, 1) := by decide +kernel
theorem dX2_readRound_76 : decode cX2_readRound 76 = .ok (.istore_n 3, 1) := by decide +kernel
theorem dX2_readRound_77 : decode cX2_readRound 77 = .ok (.goto (-68), 3) := by decide +kernel
theorem dX2_readRound_80 : decode cX2_readRound 80 = .ok (.aload_n 0, 1) := by decide +kernel
theorem dX2_readRound_81 : decode cX2_readRound 81 = .ok (.getfield 9, 3) := by decide +kernel
theorem dX2_readRound_84 : decode cX2_readRound 84 = .ok (.aload_n 1, 1) := by decide +kernel
theorem dX2_readRound_85 : decode cX2_readRound 85 = .ok (.invokevirtual 44, 3) := by decide +kernel
theorem dX2_readRound_88 : decode cX2_readRound 88 = .ok (.ireturn, 1) := by decide +kernel
theorem dX2_putOne_0 : decode cX2_putOne 0 = .ok (.iload_n 3, 1) := by decide +kernel
theorem dX2_putOne_1 : decode cX2_putOne 1 = .ok (.bipush 92, 2) := by decide +kernel
theorem dX2_putOne_3 : decode cX2_putOne 3 = .ok (.if_icmp .ne 14, 3) := by decide +kernel
theorem dX2_putOne_6 : decode cX2_putOne 6 = .ok (.iconst 1, 1) := by decide +kernel
theorem dX2_putOne_7 : decode cX2_putOne 7 = .ok (.aload_n 0, 1) := by decide +kernel
theorem dX2_putOne_8 : decode cX2_putOne 8 = .ok (.aload_n 1, 1) := by decide +kernel
theorem dX2_putOne_9 : decode cX2_putOne 9 = .ok (.iload_n 2, 1) := by decide +kernel
theorem dX2_putOne_10 : decode cX2_putOne 10 = .ok (.iconst 1, 1) := by decide +kernel
theorem dX2_putOne_11 : decode cX2_putOne 11 = .ok (.iadd, 1) := by decide +kernel
theorem dX2_putOne_12 : decode cX2_putOne 12 = .ok (.invokevirtual 48, 3) := by decide +kernel
theorem dX2_putOne_15 : decode cX2_putOne 15 = .ok (.iadd, 1) := by decide +kernel
theorem dX2_putOne_16 : decode cX2_putOne 16 = .ok (.ireturn, 1) := by decide +kernel
theorem dX2_putOne_17 : decode cX2_putOne 17 = .ok (.aload_n 0, 1) := by decide +kernel
theorem dX2_putOne_18 : decode cX2_putOne 18 = .ok (.iload_n 2, 1) := by decide +kernel
theorem dX2_putOne_19 : decode cX2_putOne 19 = .ok (.invokevirtual 51, 3) := by decide +kernel
theorem dX2_putOne_22 : decode cX2_putOne 22 = .ok (.istore 4, 2) := by decide +kernel
theorem dX2_putOne_24 : decode cX2_putOne 24 = .ok (.iload 4, 2) := by decide +kernel
theorem dX2_putOne_26 : decode cX2_putOne 26 = .ok (.ifCond .le 12, 3) := by decide +kernel
theorem dX2_putOne_29 : decode cX2_putOne 29 = .ok (.aload_n 1, 1) := by decide +kernel
theorem dX2_putOne_30 : decode cX2_putOne 30 = .ok (.bipush 10, 2) := by decide +kernel
theorem dX2_putOne_32 : decode cX2_putOne 32 = .ok (.invokevirtual 54, 3) := by decide +kernel
theorem dX2_putOne_35 : decode cX2_putOne 35 = .ok (.iload 4, 2) := by decide +kernel
theorem dX2_putOne_37 : decode cX2_putOne 37 = .ok (.ireturn, 1) := by decide +kernel
theorem dX2_putOne_38 : decode cX2_putOne 38 = .ok (.aload_n 1, 1) := by decide +kernel
theorem dX2_putOne_39 : decode cX2_putOne 39 = .ok (.iload_n 3, 1) := by decide +kernel
theorem dX2_putOne_40 : decode cX2_putOne 40 = .ok (.invokevirtual 54, 3) := by decide +kernel
theorem dX2_putOne_43 : decode cX2_putOne 43 = .ok (.iconst 1, 1) := by decide +kernel
theorem dX2_putOne_44 : decode cX2_putOne 44 = .ok (.ireturn, 1) := by decide +kernel
theorem dX2_putEscaped_0 : decode cX2_putEscaped 0 = .ok (.aload_n 0, 1) := by decide +kernel
theorem dX2_putEscaped_1 : decode cX2_putEscaped 1 = .ok (.iload_n 2, 1) := by decide +kernel
theorem dX2_putEscaped_2 : decode cX2_putEscaped 2 = .ok (.invokevirtual 51, 3) := by decide +kernel
theorem dX2_putEscaped_5 : decode cX2_putEscaped 5 = .ok (.istore_n 3, 1) := by decide +kernel
theorem dX2_putEscaped_6 : decode cX2_putEscaped 6 = .ok (.iload_n 3, 1) := by decide +kernel
theorem dX2_putEscaped_7 : decode cX2_putEscaped 7 = .ok (.ifCond .le 5, 3) := by decide +kernel
theorem dX2_putEscaped_10 : decode cX2_putEscaped 10 = .ok (.iload_n 3, 1) := by decide +kernel
theorem dX2_putEscaped_11 : decode cX2_putEscaped 11 = .ok (.ireturn, 1) := by decide +kernel
theorem dX2_putEscaped_12 : decode cX2_putEscaped 12 = .ok (.aload_n 0, 1) := by decide +kernel
theorem dX2_putEscaped_13 : decode cX2_putEscaped 13 = .ok (.iload_n 2, 1) := by decide +kernel
theorem dX2_putEscaped_14 : decode cX2_putEscaped 14 = .ok (.invokevirtual 58, 3) := by decide +kernel
theorem dX2_putEscaped_17 : decode cX2_putEscaped 17 = .ok (.istore 4, 2) := by decide +kernel
theorem dX2_putEscaped_19 : decode cX2_putEscaped 19 = .ok (.iload 4, 2) := by decide +kernel
theorem dX2_putEscaped_21 : decode cX2_putEscaped 21 = .ok (.ifCond .le 17, 3) := by decide +kernel
theorem dX2_putEscaped_24 : decode cX2_putEscaped 24 = .ok (.aload_n 1, 1) := by decide +kernel
theorem dX2_putEscaped_25 : decode cX2_putEscaped 25 = .ok (.aload_n 0, 1) := by decide +kernel
theorem dX2_putEscaped_26 : decode cX2_putEscaped 26 = .ok (.iload_n 2, 1) := by decide +kernel
theorem dX2_putEscaped_27 : decode cX2_putEscaped 27 = .ok (.iload 4, 2) := by decide +kernel
theorem dX2_putEscaped_29 : decode cX2_putEscaped 29 = .ok (.invokevirtual 61, 3) := by decide +kernel
theorem dX2_putEscaped_32 : decode cX2_putEscaped 32 = .ok (.invokevirtual 54, 3) := by decide +kernel
theorem dX2_putEscaped_35 : decode cX2_putEscaped 35 = .ok (.iload 4, 2) := by decide +kernel
theorem dX2_putEscaped_37 : decode cX2_putEscaped 37 = .ok (.ireturn, 1) := by decide +kernel
theorem dX2_putEscaped_38 : decode cX2_putEscaped 38 = .ok (.aload_n 1, 1) := by decide +kernel
theorem dX2_putEscaped_39 : decode cX2_putEscaped 39 = .ok (.aload_n 0, 1) := by decide +kernel
theorem dX2_putEscaped_40 : decode cX2_putEscaped 40 = .ok (.getfield 9, 3) := by decide +kernel
theorem dX2_putEscaped_43 : decode cX2_putEscaped 43 = .ok (.iload_n 2, 1) := by decide +kernel
theorem dX2_putEscaped_44 : decode cX2_putEscaped 44 = .ok (.invokevirtual 26, 3) := by decide +kernel
theorem dX2_putEscaped_47 : decode cX2_putEscaped 47 = .ok (.invokestatic 64, 3) := by decide +kernel
theorem dX2_putEscaped_50 : decode cX2_putEscaped 50 = .ok (.invokevirtual 54, 3) := by decide +kernel
theorem dX2_putEscaped_53 : decode cX2_putEscaped 53 = .ok (.iconst 1, 1) := by decide +kernel
theorem dX2_putEscaped_54 : decode cX2_putEscaped 54 = .ok (.ireturn, 1) := by decide +kernel
theorem dX2_lineEndWidth_0 : decode cX2_lineEndWidth 0 = .ok (.aload_n 0, 1) := by decide +kernel
theorem dX2_lineEndWidth_1 : decode cX2_lineEndWidth 1 = .ok (.getfield 9, 3) := by decide +kernel
theorem dX2_lineEndWidth_4 : decode cX2_lineEndWidth 4 = .ok (.iload_n 1, 1) := by decide +kernel
theorem dX2_lineEndWidth_5 : decode cX2_lineEndWidth 5 = .ok (.invokevirtual 26, 3) := by decide +kernel
theorem dX2_lineEndWidth_8 : decode cX2_lineEndWidth 8 = .ok (.istore_n 2, 1) := by decide +kernel
theorem dX2_lineEndWidth_9 : decode cX2_lineEndWidth 9 = .ok (.iload_n 2, 1) := by decide +kernel
theorem dX2_lineEndWidth_10 : decode cX2_lineEndWidth 10 = .ok (.bipush 13, 2) := by decide +kernel
theorem dX2_lineEndWidth_12 : decode cX2_lineEndWidth 12 = .ok (.if_icmp .ne 24, 3) := by decide +kernel
theorem dX2_lineEndWidth_15 : decode cX2_lineEndWidth 15 = .ok (.aload_n 0, 1) := by decide +kernel
theorem dX2_lineEndWidth_16 : decode cX2_lineEndWidth 16 = .ok (.getfield 9, 3) := by decide +kernel
theorem dX2_lineEndWidth_19 : decode cX2_lineEndWidth 19 = .ok (.iload_n 1, 1) := by decide +kernel
theorem dX2_lineEndWidth_20 : decode cX2_lineEndWidth 20 = .ok (.iconst 1, 1) := by decide +kernel
theorem dX2_lineEndWidth_21 : decode cX2_lineEndWidth 21 = .ok (.iadd, 1) := by decide +kernel
theorem dX2_lineEndWidth_22 : decode cX2_lineEndWidth 22 = .ok (.invokevirtual 26, 3) := by decide +kernel
theorem dX2_lineEndWidth_25 : decode cX2_lineEndWidth 25 = .ok (.bipush 10, 2) := by decide +kernel
theorem dX2_lineEndWidth_27 : decode cX2_lineEndWidth 27 = .ok (.if_icmp .ne 7, 3) := by decide +kernel
theorem dX2_lineEndWidth_30 : decode cX2_lineEndWidth 30 = .ok (.iconst 2, 1) := by decide +kernel
theorem dX2_lineEndWidth_31 : decode cX2_lineEndWidth 31 = .ok (.goto 4, 3) := by decide +kernel
theorem dX2_lineEndWidth_34 : decode cX2_lineEndWidth 34 = .ok (.iconst 1, 1) := by decide +kernel
theorem dX2_lineEndWidth_35 : decode cX2_lineEndWidth 35 = .ok (.ireturn, 1) := by decide +kernel
theorem dX2_lineEndWidth_36 : decode cX2_lineEndWidth 36 = .ok (.iload_n 2, 1) := by decide +kernel
theorem dX2_lineEndWidth_37 : decode cX2_lineEndWidth 37 = .ok (.bipush 10, 2) := by decide +kernel
theorem dX2_lineEndWidth_39 : decode cX2_lineEndWidth 39 = .ok (.if_icmp .ne 7, 3) := by decide +kernel
theorem dX2_lineEndWidth_42 : decode cX2_lineEndWidth 42 = .ok (.iconst 1, 1) := by decide +kernel
theorem dX2_lineEndWidth_43 : decode cX2_lineEndWidth 43 = .ok (.goto 4, 3) := by decide +kernel
theorem dX2_lineEndWidth_46 : decode cX2_lineEndWidth 46 = .ok (.iconst 0, 1) := by decide +kernel
theorem dX2_lineEndWidth_47 : decode cX2_lineEndWidth 47 = .ok (.ireturn, 1) := by decide +kernel
theorem dX2_octalWidth_0 : decode cX2_octalWidth 0 = .ok (.iconst 0, 1) := by decide +kernel
theorem dX2_octalWidth_1 : decode cX2_octalWidth 1 = .ok (.istore_n 2, 1) := by decide +kernel
theorem dX2_octalWidth_2 : decode cX2_octalWidth 2 = .ok (.iload_n 2, 1) := by decide +kernel
theorem dX2_octalWidth_3 : decode cX2_octalWidth 3 = .ok (.iconst 3, 1) := by decide +kernel
theorem dX2_octalWidth_4 : decode cX2_octalWidth 4 = .ok (.if_icmp .ge 27, 3) := by decide +kernel
theorem dX2_octalWidth_7 : decode cX2_octalWidth 7 = .ok (.aload_n 0, 1) := by decide +kernel
theorem dX2_octalWidth_8 : decode cX2_octalWidth 8 = .ok (.getfield 9, 3) := by decide +kernel
theorem dX2_octalWidth_11 : decode cX2_octalWidth 11 = .ok (.iload_n 1, 1) := by decide +kernel
theorem dX2_octalWidth_12 : decode cX2_octalWidth 12 = .ok (.iload_n 2, 1) := by decide +kernel
theorem dX2_octalWidth_13 : decode cX2_octalWidth 13 = .ok (.iadd, 1) := by decide +kernel
theorem dX2_octalWidth_14 : decode cX2_octalWidth 14 = .ok (.invokevirtual 26, 3) := by decide +kernel
theorem dX2_octalWidth_17 : decode cX2_octalWidth 17 = .ok (.invokestatic 67, 3) := by decide +kernel
theorem dX2_octalWidth_20 : decode cX2_octalWidth 20 = .ok (.bipush 8, 2) := by decide +kernel
theorem dX2_octalWidth_22 : decode cX2_octalWidth 22 = .ok (.if_icmp .ge 9, 3) := by decide +kernel
theorem dX2_octalWidth_25 : decode cX2_octalWidth 25 = .ok (.iinc 2 1, 3) := by decide +kernel
theorem dX2_octalWidth_28 : decode cX2_octalWidth 28 = .ok (.goto (-26), 3) := by decide +kernel
theorem dX2_octalWidth_31 : decode cX2_octalWidth 31 = .ok (.iload_n 2, 1) := by decide +kernel
theorem dX2_octalWidth_32 : decode cX2_octalWidth 32 = .ok (.ireturn, 1) := by decide +kernel
theorem dX2_octalAt_0 : decode cX2_octalAt 0 = .ok (.iconst 0, 1) := by decide +kernel
theorem dX2_octalAt_1 : decode cX2_octalAt 1 = .ok (.istore_n 3, 1) := by decide +kernel
theorem dX2_octalAt_2 : decode cX2_octalAt 2 = .ok (.iconst 0, 1) := by decide +kernel
theorem dX2_octalAt_3 : decode cX2_octalAt 3 = .ok (.istore 4, 2) := by decide +kernel
theorem dX2_octalAt_5 : decode cX2_octalAt 5 = .ok (.iload 4, 2) := by decide +kernel
theorem dX2_octalAt_7 : decode cX2_octalAt 7 = .ok (.iload_n 2, 1) := by decide +kernel
theorem dX2_octalAt_8 : decode cX2_octalAt 8 = .ok (.if_icmp .ge 29, 3) := by decide +kernel
theorem dX2_octalAt_11 : decode cX2_octalAt 11 = .ok (.iload_n 3, 1) := by decide +kernel
theorem dX2_octalAt_12 : decode cX2_octalAt 12 = .ok (.bipush 8, 2) := by decide +kernel
theorem dX2_octalAt_14 : decode cX2_octalAt 14 = .ok (.imul, 1) := by decide +kernel
theorem dX2_octalAt_15 : decode cX2_octalAt 15 = .ok (.aload_n 0, 1) := by decide +kernel
theorem dX2_octalAt_16 : decode cX2_octalAt 16 = .ok (.getfield 9, 3) := by decide +kernel
theorem dX2_octalAt_19 : decode cX2_octalAt 19 = .ok (.iload_n 1, 1) := by decide +kernel
theorem dX2_octalAt_20 : decode cX2_octalAt 20 = .ok (.iload 4, 2) := by decide +kernel
theorem dX2_octalAt_22 : decode cX2_octalAt 22 = .ok (.iadd, 1) := by decide +kernel
theorem dX2_octalAt_23 : decode cX2_octalAt 23 = .ok (.invokevirtual 26, 3) := by decide +kernel
theorem dX2_octalAt_26 : decode cX2_octalAt 26 = .ok (.invokestatic 67, 3) := by decide +kernel
theorem dX2_octalAt_29 : decode cX2_octalAt 29 = .ok (.iadd, 1) := by decide +kernel
theorem dX2_octalAt_30 : decode cX2_octalAt 30 = .ok (.istore_n 3, 1) := by decide +kernel
theorem dX2_octalAt_31 : decode cX2_octalAt 31 = .ok (.iinc 4 1, 3) := by decide +kernel
theorem dX2_octalAt_34 : decode cX2_octalAt 34 = .ok (.goto (-29), 3) := by decide +kernel
theorem dX2_octalAt_37 : decode cX2_octalAt 37 = .ok (.iload_n 3, 1) := by decide +kernel
theorem dX2_octalAt_38 : decode cX2_octalAt 38 = .ok (.sipush 255, 3) := by decide +kernel
theorem dX2_octalAt_41 : decode cX2_octalAt 41 = .ok (.iand, 1) := by decide +kernel
theorem dX2_octalAt_42 : decode cX2_octalAt 42 = .ok (.ireturn, 1) := by decide +kernel
theorem dX2_escaped_0 : decode cX2_escaped 0 = .ok (.iload_n 0, 1) := by decide +kernel
theorem dX2_escaped_1 : decode cX2_escaped 1 = .ok (.lookupswitch 66 #[(98, 60), (102, 63), (110, 51), (114, 54), (116, 57)], 51) := by decide +kernel
theorem dX2_escaped_52 : decode cX2_escaped 52 = .ok (.bipush 10, 2) := by decide +kernel
theorem dX2_escaped_54 : decode cX2_escaped 54 = .ok (.ireturn, 1) := by decide +kernel
theorem dX2_escaped_55 : decode cX2_escaped 55 = .ok (.bipush 13, 2) := by decide +kernel
theorem dX2_escaped_57 : decode cX2_escaped 57 = .ok (.ireturn, 1) := by decide +kernel
theorem dX2_escaped_58 : decode cX2_escaped 58 = .ok (.bipush 9, 2) := by decide +kernel
theorem dX2_escaped_60 : decode cX2_escaped 60 = .ok (.ireturn, 1) := by decide +kernel
theorem dX2_escaped_61 : decode cX2_escaped 61 = .ok (.bipush 8, 2) := by decide +kernel
theorem dX2_escaped_63 : decode cX2_escaped 63 = .ok (.ireturn, 1) := by decide +kernel
theorem dX2_escaped_64 : decode cX2_escaped 64 = .ok (.bipush 12, 2) := by decide +kernel
theorem dX2_escaped_66 : decode cX2_escaped 66 = .ok (.ireturn, 1) := by decide +kernel
theorem dX2_escaped_67 : decode cX2_escaped 67 = .ok (.iload_n 0, 1) := by decide +kernel
theorem dX2_escaped_68 : decode cX2_escaped 68 = .ok (.ireturn, 1) := by decide +kernel
theorem dX2_readBase16_0 : decode cX2_readBase16 0 = .ok (.iconst (-1), 1) := by decide +kernel
theorem dX2_readBase16_1 : decode cX2_readBase16 1 = .ok (.istore_n 2, 1) := by decide +kernel
theorem dX2_readBase16_2 : decode cX2_readBase16 2 = .ok (.aload_n 1, 1) := by decide +kernel
theorem dX2_readBase16_3 : decode cX2_readBase16 3 = .ok (.getfield 15, 3) := by decide +kernel
theorem dX2_readBase16_6 : decode cX2_readBase16 6 = .ok (.iconst 1, 1) := by decide +kernel
theorem dX2_readBase16_7 : decode cX2_readBase16 7 = .ok (.iadd, 1) := by decide +kernel
theorem dX2_readBase16_8 : decode cX2_readBase16 8 = .ok (.istore_n 3, 1) := by decide +kernel
theorem dX2_readBase16_9 : decode cX2_readBase16 9 = .ok (.iload_n 3, 1) := by decide +kernel
theorem dX2_readBase16_10 : decode cX2_readBase16 10 = .ok (.aload_n 0, 1) := by decide +kernel
theorem dX2_readBase16_11 : decode cX2_readBase16 11 = .ok (.getfield 9, 3) := by decide +kernel
theorem dX2_readBase16_14 : decode cX2_readBase16 14 = .ok (.getfield 21, 3) := by decide +kernel
theorem dX2_readBase16_17 : decode cX2_readBase16 17 = .ok (.if_icmp .ge 96, 3) := by decide +kernel
theorem dX2_readBase16_20 : decode cX2_readBase16 20 = .ok (.aload_n 0, 1) := by decide +kernel
theorem dX2_readBase16_21 : decode cX2_readBase16 21 = .ok (.getfield 9, 3) := by decide +kernel
theorem dX2_readBase16_24 : decode cX2_readBase16 24 = .ok (.iload_n 3, 1) := by decide +kernel
theorem dX2_readBase16_25 : decode cX2_readBase16 25 = .ok (.invokevirtual 26, 3) := by decide +kernel
theorem dX2_readBase16_28 : decode cX2_readBase16 28 = .ok (.istore 4, 2) := by decide +kernel
theorem dX2_readBase16_30 : decode cX2_readBase16 30 = .ok (.iload 4, 2) := by decide +kernel
theorem dX2_readBase16_32 : decode cX2_readBase16 32 = .ok (.invokestatic 70, 3) := by decide +kernel
theorem dX2_readBase16_35 : decode cX2_readBase16 35 = .ok (.ifCond .eq 6, 3) := by decide +kernel
theorem dX2_readBase16_38 : decode cX2_readBase16 38 = .ok (.goto 69, 3) := by decide +kernel
theorem dX2_readBase16_41 : decode cX2_readBase16 41 = .ok (.iload 4, 2) := by decide +kernel
theorem dX2_readBase16_43 : decode cX2_readBase16 43 = .ok (.bipush 62, 2) := by decide +kernel
theorem dX2_readBase16_45 : decode cX2_readBase16 45 = .ok (.if_icmp .ne 16, 3) := by decide +kernel
theorem dX2_readBase16_48 : decode cX2_readBase16 48 = .ok (.aload_n 1, 1) := by decide +kernel
theorem dX2_readBase16_49 : decode cX2_readBase16 49 = .ok (.iload_n 2, 1) := by decide +kernel
theorem dX2_readBase16_50 : decode cX2_readBase16 50 = .ok (.invokestatic 74, 3) := by decide +kernel
theorem dX2_readBase16_53 : decode cX2_readBase16 53 = .ok (.aload_n 1, 1) := by decide +kernel
theorem dX2_readBase16_54 : decode cX2_readBase16 54 = .ok (.iload_n 3, 1) := by decide +kernel
theorem dX2_readBase16_55 : decode cX2_readBase16 55 = .ok (.iconst 1, 1) := by decide +kernel
theorem dX2_readBase16_56 : decode cX2_readBase16 56 = .ok (.iadd, 1) := by decide +kernel
theorem dX2_readBase16_57 : decode cX2_readBase16 57 = .ok (.invokestatic 30, 3) := by decide +kernel
theorem dX2_readBase16_60 : decode cX2_readBase16 60 = .ok (.ireturn, 1) := by decide +kernel
theorem dX2_readBase16_61 : decode cX2_readBase16 61 = .ok (.iload 4, 2) := by decide +kernel
theorem dX2_readBase16_63 : decode cX2_readBase16 63 = .ok (.invokestatic 67, 3) := by decide +kernel
theorem dX2_readBase16_66 : decode cX2_readBase16 66 = .ok (.istore 5, 2) := by decide +kernel
theorem dX2_readBase16_68 : decode cX2_readBase16 68 = .ok (.iload 5, 2) := by decide +kernel
theorem dX2_readBase16_70 : decode cX2_readBase16 70 = .ok (.bipush 16, 2) := by decide +kernel
theorem dX2_readBase16_72 : decode cX2_readBase16 72 = .ok (.if_icmp .lt 11, 3) := by decide +kernel
theorem dX2_readBase16_75 : decode cX2_readBase16 75 = .ok (.aload_n 1, 1) := by decide +kernel
theorem dX2_readBase16_76 : decode cX2_readBase16 76 = .ok (.bipush (-3), 2) := by decide +kernel
theorem dX2_readBase16_78 : decode cX2_readBase16 78 = .ok (.iload_n 3, 1) := by decide +kernel
theorem dX2_readBase16_79 : decode cX2_readBase16 79 = .ok (.invokevirtual 78, 3) := by decide +kernel
theorem dX2_readBase16_82 : decode cX2_readBase16 82 = .ok (.ireturn, 1) := by decide +kernel
theorem dX2_readBase16_83 : decode cX2_readBase16 83 = .ok (.iload_n 2, 1) := by decide +kernel
theorem dX2_readBase16_84 : decode cX2_readBase16 84 = .ok (.iconst (-1), 1) := by decide +kernel
theorem dX2_readBase16_85 : decode cX2_readBase16 85 = .ok (.if_icmp .ne 9, 3) := by decide +kernel
theorem dX2_readBase16_88 : decode cX2_readBase16 88 = .ok (.iload 5, 2) := by decide +kernel
theorem dX2_readBase16_90 : decode cX2_readBase16 90 = .ok (.istore_n 2, 1) := by decide +kernel
theorem dX2_readBase16_91 : decode cX2_readBase16 91 = .ok (.goto 16, 3) := by decide +kernel
theorem dX2_readBase16_94 : decode cX2_readBase16 94 = .ok (.aload_n 1, 1) := by decide +kernel
theorem dX2_readBase16_95 : decode cX2_readBase16 95 = .ok (.iload_n 2, 1) := by decide +kernel
theorem dX2_readBase16_96 : decode cX2_readBase16 96 = .ok (.bipush 16, 2) := by decide +kernel
theorem dX2_readBase16_98 : decode cX2_readBase16 98 = .ok (.imul, 1) := by decide +kernel
theorem dX2_readBase16_99 : decode cX2_readBase16 99 = .ok (.iload 5, 2) := by decide +kernel
theorem dX2_readBase16_101 : decode cX2_readBase16 101 = .ok (.iadd, 1) := by decide +kernel
theorem dX2_readBase16_102 : decode cX2_readBase16 102 = .ok (.invokevirtual 54, 3) := by decide +kernel
theorem dX2_readBase16_105 : decode cX2_readBase16 105 = .ok (.iconst (-1), 1) := by decide +kernel
theorem dX2_readBase16_106 : decode cX2_readBase16 106 = .ok (.istore_n 2, 1) := by decide +kernel
theorem dX2_readBase16_107 : decode cX2_readBase16 107 = .ok (.iinc 3 1, 3) := by decide +kernel
theorem dX2_readBase16_110 : decode cX2_readBase16 110 = .ok (.goto (-101), 3) := by decide +kernel
theorem dX2_readBase16_113 : decode cX2_readBase16 113 = .ok (.aload_n 0, 1) := by decide +kernel
theorem dX2_readBase16_114 : decode cX2_readBase16 114 = .ok (.getfield 9, 3) := by decide +kernel
theorem dX2_readBase16_117 : decode cX2_readBase16 117 = .ok (.aload_n 1, 1) := by decide +kernel
theorem dX2_readBase16_118 : decode cX2_readBase16 118 = .ok (.invokevirtual 44, 3) := by decide +kernel
theorem dX2_readBase16_121 : decode cX2_readBase16 121 = .ok (.ireturn, 1) := by decide +kernel
theorem dX2_putLastAlone_0 : decode cX2_putLastAlone 0 = .ok (.iload_n 1, 1) := by decide +kernel
theorem dX2_putLastAlone_1 : decode cX2_putLastAlone 1 = .ok (.iconst (-1), 1) := by decide +kernel
theorem dX2_putLastAlone_2 : decode cX2_putLastAlone 2 = .ok (.if_icmp .eq 11, 3) := by decide +kernel
theorem dX2_putLastAlone_5 : decode cX2_putLastAlone 5 = .ok (.aload_n 0, 1) := by decide +kernel
theorem dX2_putLastAlone_6 : decode cX2_putLastAlone 6 = .ok (.iload_n 1, 1) := by decide +kernel
theorem dX2_putLastAlone_7 : decode cX2_putLastAlone 7 = .ok (.bipush 16, 2) := by decide +kernel
theorem dX2_putLastAlone_9 : decode cX2_putLastAlone 9 = .ok (.imul, 1) := by decide +kernel
theorem dX2_putLastAlone_10 : decode cX2_putLastAlone 10 = .ok (.invokevirtual 54, 3) := by decide +kernel
theorem dX2_putLastAlone_13 : decode cX2_putLastAlone 13 = .ok (.return_, 1) := by decide +kernel
theorem dX2_readBase85_0 : decode cX2_readBase85 0 = .ok (.lconst 0, 1) := by decide +kernel
theorem dX2_readBase85_1 : decode cX2_readBase85 1 = .ok (.lstore_n 2, 1) := by decide +kernel
theorem dX2_readBase85_2 : decode cX2_readBase85 2 = .ok (.iconst 0, 1) := by decide +kernel
theorem dX2_readBase85_3 : decode cX2_readBase85 3 = .ok (.istore 4, 2) := by decide +kernel
theorem dX2_readBase85_5 : decode cX2_readBase85 5 = .ok (.aload_n 1, 1) := by decide +kernel
theorem dX2_readBase85_6 : decode cX2_readBase85 6 = .ok (.getfield 15, 3) := by decide +kernel
theorem dX2_readBase85_9 : decode cX2_readBase85 9 = .ok (.iconst 2, 1) := by decide +kernel
theorem dX2_readBase85_10 : decode cX2_readBase85 10 = .ok (.iadd, 1) := by decide +kernel
theorem dX2_readBase85_11 : decode cX2_readBase85 11 = .ok (.istore 5, 2) := by decide +kernel
theorem dX2_readBase85_13 : decode cX2_readBase85 13 = .ok (.iload 5, 2) := by decide +kernel
theorem dX2_readBase85_15 : decode cX2_readBase85 15 = .ok (.aload_n 0, 1) := by decide +kernel
theorem dX2_readBase85_16 : decode cX2_readBase85 16 = .ok (.getfield 9, 3) := by decide +kernel
theorem dX2_readBase85_19 : decode cX2_readBase85 19 = .ok (.getfield 21, 3) := by decide +kernel
theorem dX2_readBase85_22 : decode cX2_readBase85 22 = .ok (.if_icmp .ge 144, 3) := by decide +kernel
theorem dX2_readBase85_25 : decode cX2_readBase85 25 = .ok (.aload_n 0, 1) := by decide +kernel
theorem dX2_readBase85_26 : decode cX2_readBase85 26 = .ok (.getfield 9, 3) := by decide +kernel
theorem dX2_readBase85_29 : decode cX2_readBase85 29 = .ok (.iload 5, 2) := by decide +kernel
theorem dX2_readBase85_31 : decode cX2_readBase85 31 = .ok (.invokevirtual 26, 3) := by decide +kernel
theorem dX2_readBase85_34 : decode cX2_readBase85 34 = .ok (.istore 6, 2) := by decide +kernel
theorem dX2_readBase85_36 : decode cX2_readBase85 36 = .ok (.iload 6, 2) := by decide +kernel
theorem dX2_readBase85_38 : decode cX2_readBase85 38 = .ok (.invokestatic 70, 3) := by decide +kernel
theorem dX2_readBase85_41 : decode cX2_readBase85 41 = .ok (.ifCond .eq 6, 3) := by decide +kernel
theorem dX2_readBase85_44 : decode cX2_readBase85 44 = .ok (.goto 116, 3) := by decide +kernel
theorem dX2_readBase85_47 : decode cX2_readBase85 47 = .ok (.iload 6, 2) := by decide +kernel
theorem dX2_readBase85_49 : decode cX2_readBase85 49 = .ok (.bipush 126, 2) := by decide +kernel
theorem dX2_readBase85_51 : decode cX2_readBase85 51 = .ok (.if_icmp .ne 14, 3) := by decide +kernel
theorem dX2_readBase85_54 : decode cX2_readBase85 54 = .ok (.aload_n 0, 1) := by decide +kernel
theorem dX2_readBase85_55 : decode cX2_readBase85 55 = .ok (.aload_n 1, 1) := by decide +kernel
theorem dX2_readBase85_56 : decode cX2_readBase85 56 = .ok (.iload 5, 2) := by decide +kernel
theorem dX2_readBase85_58 : decode cX2_readBase85 58 = .ok (.lload_n 2, 1) := by decide +kernel
theorem dX2_readBase85_59 : decode cX2_readBase85 59 = .ok (.iload 4, 2) := by decide +kernel
theorem dX2_readBase85_61 : decode cX2_readBase85 61 = .ok (.invokevirtual 81, 3) := by decide +kernel
theorem dX2_readBase85_64 : decode cX2_readBase85 64 = .ok (.ireturn, 1) := by decide +kernel
theorem dX2_readBase85_65 : decode cX2_readBase85 65 = .ok (.iload 6, 2) := by decide +kernel
theorem dX2_readBase85_67 : decode cX2_readBase85 67 = .ok (.bipush 122, 2) := by decide +kernel
theorem dX2_readBase85_69 : decode cX2_readBase85 69 = .ok (.if_icmp .ne 17, 3) := by decide +kernel
theorem dX2_readBase85_72 : decode cX2_readBase85 72 = .ok (.iload 4, 2) := by decide +kernel
theorem dX2_readBase85_74 : decode cX2_readBase85 74 = .ok (.ifCond .ne 12, 3) := by decide +kernel
theorem dX2_readBase85_77 : decode cX2_readBase85 77 = .ok (.aload_n 1, 1) := by decide +kernel
theorem dX2_readBase85_78 : decode cX2_readBase85 78 = .ok (.lconst 0, 1) := by decide +kernel
theorem dX2_readBase85_79 : decode cX2_readBase85 79 = .ok (.iconst 4, 1) := by decide +kernel
theorem dX2_readBase85_80 : decode cX2_readBase85 80 = .ok (.invokestatic 85, 3) := by decide +kernel
theorem dX2_readBase85_83 : decode cX2_readBase85 83 = .ok (.goto 77, 3) := by decide +kernel
theorem dX2_readBase85_86 : decode cX2_readBase85 86 = .ok (.iload 6, 2) := by decide +kernel
theorem dX2_readBase85_88 : decode cX2_readBase85 88 = .ok (.bipush 33, 2) := by decide +kernel
theorem dX2_readBase85_90 : decode cX2_readBase85 90 = .ok (.if_icmp .lt 10, 3) := by decide +kernel
theorem dX2_readBase85_93 : decode cX2_readBase85 93 = .ok (.iload 6, 2) := by decide +kernel
theorem dX2_readBase85_95 : decode cX2_readBase85 95 = .ok (.bipush 117, 2) := by decide +kernel
theorem dX2_readBase85_97 : decode cX2_readBase85 97 = .ok (.if_icmp .le 12, 3) := by decide +kernel
theorem dX2_readBase85_100 : decode cX2_readBase85 100 = .ok (.aload_n 1, 1) := by decide +kernel
theorem dX2_readBase85_101 : decode cX2_readBase85 101 = .ok (.bipush (-3), 2) := by decide +kernel
theorem dX2_readBase85_103 : decode cX2_readBase85 103 = .ok (.iload 5, 2) := by decide +kernel
theorem dX2_readBase85_105 : decode cX2_readBase85 105 = .ok (.invokevirtual 78, 3) := by decide +kernel
theorem dX2_readBase85_108 : decode cX2_readBase85 108 = .ok (.ireturn, 1) := by decide +kernel
theorem dX2_readBase85_109 : decode cX2_readBase85 109 = .ok (.lload_n 2, 1) := by decide +kernel
theorem dX2_readBase85_110 : decode cX2_readBase85 110 = .ok (.ldc2_w 89, 3) := by decide +kernel
theorem dX2_readBase85_113 : decode cX2_readBase85 113 = .ok (.lmul, 1) := by decide +kernel
theorem dX2_readBase85_114 : decode cX2_readBase85 114 = .ok (.iload 6, 2) := by decide +kernel
theorem dX2_readBase85_116 : decode cX2_readBase85 116 = .ok (.i2l, 1) := by decide +kernel
theorem dX2_readBase85_117 : decode cX2_readBase85 117 = .ok (.ladd, 1) := by decide +kernel
theorem dX2_readBase85_118 : decode cX2_readBase85 118 = .ok (.ldc2_w 91, 3) := by decide +kernel
theorem dX2_readBase85_121 : decode cX2_readBase85 121 = .ok (.lsub, 1) := by decide +kernel
theorem dX2_readBase85_122 : decode cX2_readBase85 122 = .ok (.lstore_n 2, 1) := by decide +kernel
theorem dX2_readBase85_123 : decode cX2_readBase85 123 = .ok (.iinc 4 1, 3) := by decide +kernel
theorem dX2_readBase85_126 : decode cX2_readBase85 126 = .ok (.lload_n 2, 1) := by decide +kernel
theorem dX2_readBase85_127 : decode cX2_readBase85 127 = .ok (.ldc2_w 93, 3) := by decide +kernel
theorem dX2_readBase85_130 : decode cX2_readBase85 130 = .ok (.lcmp, 1) := by decide +kernel
theorem dX2_readBase85_131 : decode cX2_readBase85 131 = .ok (.ifCond .lt 12, 3) := by decide +kernel
theorem dX2_readBase85_134 : decode cX2_readBase85 134 = .ok (.aload_n 1, 1) := by decide +kernel
theorem dX2_readBase85_135 : decode cX2_readBase85 135 = .ok (.bipush (-3), 2) := by decide +kernel
theorem dX2_readBase85_137 : decode cX2_readBase85 137 = .ok (.iload 5, 2) := by decide +kernel
theorem dX2_readBase85_139 : decode cX2_readBase85 139 = .ok (.invokevirtual 78, 3) := by decide +kernel
theorem dX2_readBase85_142 : decode cX2_readBase85 142 = .ok (.ireturn, 1) := by decide +kernel
theorem dX2_readBase85_143 : decode cX2_readBase85 143 = .ok (.iload 4, 2) := by decide +kernel
theorem dX2_readBase85_145 : decode cX2_readBase85 145 = .ok (.iconst 5, 1) := by decide +kernel
theorem dX2_readBase85_146 : decode cX2_readBase85 146 = .ok (.if_icmp .ne 14, 3) := by decide +kernel
theorem dX2_readBase85_149 : decode cX2_readBase85 149 = .ok (.aload_n 1, 1) := by decide +kernel
theorem dX2_readBase85_150 : decode cX2_readBase85 150 = .ok (.lload_n 2, 1) := by decide +kernel
theorem dX2_readBase85_151 : decode cX2_readBase85 151 = .ok (.iconst 4, 1) := by decide +kernel
theorem dX2_readBase85_152 : decode cX2_readBase85 152 = .ok (.invokestatic 85, 3) := by decide +kernel
theorem dX2_readBase85_155 : decode cX2_readBase85 155 = .ok (.lconst 0, 1) := by decide +kernel
theorem dX2_readBase85_156 : decode cX2_readBase85 156 = .ok (.lstore_n 2, 1) := by decide +kernel
theorem dX2_readBase85_157 : decode cX2_readBase85 157 = .ok (.iconst 0, 1) := by decide +kernel
theorem dX2_readBase85_158 : decode cX2_readBase85 158 = .ok (.istore 4, 2) := by decide +kernel
theorem dX2_readBase85_160 : decode cX2_readBase85 160 = .ok (.iinc 5 1, 3) := by decide +kernel
theorem dX2_readBase85_163 : decode cX2_readBase85 163 = .ok (.goto (-150), 3) := by decide +kernel
theorem dX2_readBase85_166 : decode cX2_readBase85 166 = .ok (.aload_n 0, 1) := by decide +kernel
theorem dX2_readBase85_167 : decode cX2_readBase85 167 = .ok (.getfield 9, 3) := by decide +kernel
theorem dX2_readBase85_170 : decode cX2_readBase85 170 = .ok (.aload_n 1, 1) := by decide +kernel
theorem dX2_readBase85_171 : decode cX2_readBase85 171 = .ok (.invokevirtual 44, 3) := by decide +kernel
theorem dX2_readBase85_174 : decode cX2_readBase85 174 = .ok (.ireturn, 1) := by decide +kernel
theorem dX2_endBase85_0 : decode cX2_endBase85 0 = .ok (.lload_n 3, 1) := by decide +kernel
theorem dX2_endBase85_1 : decode cX2_endBase85 1 = .ok (.lstore 6, 2) := by decide +kernel
theorem dX2_endBase85_3 : decode cX2_endBase85 3 = .ok (.iload 5, 2) := by decide +kernel
theorem dX2_endBase85_5 : decode cX2_endBase85 5 = .ok (.istore 8, 2) := by decide +kernel
theorem dX2_endBase85_7 : decode cX2_endBase85 7 = .ok (.iload 8, 2) := by decide +kernel
theorem dX2_endBase85_9 : decode cX2_endBase85 9 = .ok (.iconst 5, 1) := by decide +kernel
theorem dX2_endBase85_10 : decode cX2_endBase85 10 = .ok (.if_icmp .ge 21, 3) := by decide +kernel
theorem dX2_endBase85_13 : decode cX2_endBase85 13 = .ok (.lload 6, 2) := by decide +kernel
theorem dX2_endBase85_15 : decode cX2_endBase85 15 = .ok (.ldc2_w 89, 3) := by decide +kernel
theorem dX2_endBase85_18 : decode cX2_endBase85 18 = .ok (.lmul, 1) := by decide +kernel
theorem dX2_endBase85_19 : decode cX2_endBase85 19 = .ok (.ldc2_w 95, 3) := by decide +kernel
theorem dX2_endBase85_22 : decode cX2_endBase85 22 = .ok (.ladd, 1) := by decide +kernel
theorem dX2_endBase85_23 : decode cX2_endBase85 23 = .ok (.lstore 6, 2) := by decide +kernel
theorem dX2_endBase85_25 : decode cX2_endBase85 25 = .ok (.iinc 8 1, 3) := by decide +kernel
theorem dX2_endBase85_28 : decode cX2_endBase85 28 = .ok (.goto (-21), 3) := by decide +kernel
theorem dX2_endBase85_31 : decode cX2_endBase85 31 = .ok (.iload 5, 2) := by decide +kernel
theorem dX2_endBase85_33 : decode cX2_endBase85 33 = .ok (.iconst 1, 1) := by decide +kernel
theorem dX2_endBase85_34 : decode cX2_endBase85 34 = .ok (.if_icmp .eq 18, 3) := by decide +kernel
theorem dX2_endBase85_37 : decode cX2_endBase85 37 = .ok (.iload 5, 2) := by decide +kernel
theorem dX2_endBase85_39 : decode cX2_endBase85 39 = .ok (.iconst 1, 1) := by decide +kernel
theorem dX2_endBase85_40 : decode cX2_endBase85 40 = .ok (.if_icmp .le 20, 3) := by decide +kernel
theorem dX2_endBase85_43 : decode cX2_endBase85 43 = .ok (.lload 6, 2) := by decide +kernel
theorem dX2_endBase85_45 : decode cX2_endBase85 45 = .ok (.ldc2_w 93, 3) := by decide +kernel
theorem dX2_endBase85_48 : decode cX2_endBase85 48 = .ok (.lcmp, 1) := by decide +kernel
theorem dX2_endBase85_49 : decode cX2_endBase85 49 = .ok (.ifCond .lt 11, 3) := by decide +kernel
theorem dX2_endBase85_52 : decode cX2_endBase85 52 = .ok (.aload_n 1, 1) := by decide +kernel
theorem dX2_endBase85_53 : decode cX2_endBase85 53 = .ok (.bipush (-3), 2) := by decide +kernel
theorem dX2_endBase85_55 : decode cX2_endBase85 55 = .ok (.iload_n 2, 1) := by decide +kernel
theorem dX2_endBase85_56 : decode cX2_endBase85 56 = .ok (.invokevirtual 78, 3) := by decide +kernel
theorem dX2_endBase85_59 : decode cX2_endBase85 59 = .ok (.ireturn, 1) := by decide +kernel
theorem dX2_endBase85_60 : decode cX2_endBase85 60 = .ok (.aload_n 0, 1) := by decide +kernel
theorem dX2_endBase85_61 : decode cX2_endBase85 61 = .ok (.getfield 9, 3) := by decide +kernel
theorem dX2_endBase85_64 : decode cX2_endBase85 64 = .ok (.iload_n 2, 1) := by decide +kernel
theorem dX2_endBase85_65 : decode cX2_endBase85 65 = .ok (.iconst 1, 1) := by decide +kernel
theorem dX2_endBase85_66 : decode cX2_endBase85 66 = .ok (.iadd, 1) := by decide +kernel
theorem dX2_endBase85_67 : decode cX2_endBase85 67 = .ok (.invokevirtual 26, 3) := by decide +kernel
theorem dX2_endBase85_70 : decode cX2_endBase85 70 = .ok (.istore 8, 2) := by decide +kernel
theorem dX2_endBase85_72 : decode cX2_endBase85 72 = .ok (.iload 8, 2) := by decide +kernel
theorem dX2_endBase85_74 : decode cX2_endBase85 74 = .ok (.iconst (-1), 1) := by decide +kernel
theorem dX2_endBase85_75 : decode cX2_endBase85 75 = .ok (.if_icmp .ne 12, 3) := by decide +kernel
theorem dX2_endBase85_78 : decode cX2_endBase85 78 = .ok (.aload_n 0, 1) := by decide +kernel
theorem dX2_endBase85_79 : decode cX2_endBase85 79 = .ok (.getfield 9, 3) := by decide +kernel
theorem dX2_endBase85_82 : decode cX2_endBase85 82 = .ok (.aload_n 1, 1) := by decide +kernel
theorem dX2_endBase85_83 : decode cX2_endBase85 83 = .ok (.invokevirtual 44, 3) := by decide +kernel
theorem dX2_endBase85_86 : decode cX2_endBase85 86 = .ok (.ireturn, 1) := by decide +kernel
theorem dX2_endBase85_87 : decode cX2_endBase85 87 = .ok (.iload 8, 2) := by decide +kernel
theorem dX2_endBase85_89 : decode cX2_endBase85 89 = .ok (.bipush 62, 2) := by decide +kernel
theorem dX2_endBase85_91 : decode cX2_endBase85 91 = .ok (.if_icmp .eq 13, 3) := by decide +kernel
theorem dX2_endBase85_94 : decode cX2_endBase85 94 = .ok (.aload_n 1, 1) := by decide +kernel
theorem dX2_endBase85_95 : decode cX2_endBase85 95 = .ok (.bipush (-3), 2) := by decide +kernel
theorem dX2_endBase85_97 : decode cX2_endBase85 97 = .ok (.iload_n 2, 1) := by decide +kernel
theorem dX2_endBase85_98 : decode cX2_endBase85 98 = .ok (.iconst 1, 1) := by decide +kernel
theorem dX2_endBase85_99 : decode cX2_endBase85 99 = .ok (.iadd, 1) := by decide +kernel
theorem dX2_endBase85_100 : decode cX2_endBase85 100 = .ok (.invokevirtual 78, 3) := by decide +kernel
theorem dX2_endBase85_103 : decode cX2_endBase85 103 = .ok (.ireturn, 1) := by decide +kernel
theorem dX2_endBase85_104 : decode cX2_endBase85 104 = .ok (.aload_n 1, 1) := by decide +kernel
theorem dX2_endBase85_105 : decode cX2_endBase85 105 = .ok (.lload 6, 2) := by decide +kernel
theorem dX2_endBase85_107 : decode cX2_endBase85 107 = .ok (.iload 5, 2) := by decide +kernel
theorem dX2_endBase85_109 : decode cX2_endBase85 109 = .ok (.iconst 1, 1) := by decide +kernel
theorem dX2_endBase85_110 : decode cX2_endBase85 110 = .ok (.isub, 1) := by decide +kernel
theorem dX2_endBase85_111 : decode cX2_endBase85 111 = .ok (.invokestatic 85, 3) := by decide +kernel
theorem dX2_endBase85_114 : decode cX2_endBase85 114 = .ok (.aload_n 1, 1) := by decide +kernel
theorem dX2_endBase85_115 : decode cX2_endBase85 115 = .ok (.iload_n 2, 1) := by decide +kernel
theorem dX2_endBase85_116 : decode cX2_endBase85 116 = .ok (.iconst 2, 1) := by decide +kernel
theorem dX2_endBase85_117 : decode cX2_endBase85 117 = .ok (.iadd, 1) := by decide +kernel
theorem dX2_endBase85_118 : decode cX2_endBase85 118 = .ok (.invokestatic 30, 3) := by decide +kernel
theorem dX2_endBase85_121 : decode cX2_endBase85 121 = .ok (.ireturn, 1) := by decide +kernel
theorem dX2_putHighest_0 : decode cX2_putHighest 0 = .ok (.iconst 0, 1) := by decide +kernel
theorem dX2_putHighest_1 : decode cX2_putHighest 1 = .ok (.istore 4, 2) := by decide +kernel
theorem dX2_putHighest_3 : decode cX2_putHighest 3 = .ok (.iload 4, 2) := by decide +kernel
theorem dX2_putHighest_5 : decode cX2_putHighest 5 = .ok (.iload_n 3, 1) := by decide +kernel
theorem dX2_putHighest_6 : decode cX2_putHighest 6 = .ok (.if_icmp .ge 28, 3) := by decide +kernel
theorem dX2_putHighest_9 : decode cX2_putHighest 9 = .ok (.aload_n 0, 1) := by decide +kernel
theorem dX2_putHighest_10 : decode cX2_putHighest 10 = .ok (.lload_n 1, 1) := by decide +kernel
theorem dX2_putHighest_11 : decode cX2_putHighest 11 = .ok (.bipush 24, 2) := by decide +kernel
theorem dX2_putHighest_13 : decode cX2_putHighest 13 = .ok (.bipush 8, 2) := by decide +kernel
theorem dX2_putHighest_15 : decode cX2_putHighest 15 = .ok (.iload 4, 2) := by decide +kernel
theorem dX2_putHighest_17 : decode cX2_putHighest 17 = .ok (.imul, 1) := by decide +kernel
theorem dX2_putHighest_18 : decode cX2_putHighest 18 = .ok (.isub, 1) := by decide +kernel
theorem dX2_putHighest_19 : decode cX2_putHighest 19 = .ok (.lshr, 1) := by decide +kernel
theorem dX2_putHighest_20 : decode cX2_putHighest 20 = .ok (.l2i, 1) := by decide +kernel
theorem dX2_putHighest_21 : decode cX2_putHighest 21 = .ok (.sipush 255, 3) := by decide +kernel
theorem dX2_putHighest_24 : decode cX2_putHighest 24 = .ok (.iand, 1) := by decide +kernel
theorem dX2_putHighest_25 : decode cX2_putHighest 25 = .ok (.invokevirtual 54, 3) := by decide +kernel
theorem dX2_putHighest_28 : decode cX2_putHighest 28 = .ok (.iinc 4 1, 3) := by decide +kernel
theorem dX2_putHighest_31 : decode cX2_putHighest 31 = .ok (.goto (-28), 3) := by decide +kernel
theorem dX2_putHighest_34 : decode cX2_putHighest 34 = .ok (.return_, 1) := by decide +kernel
theorem dX2_wholeString_0 : decode cX2_wholeString 0 = .ok (.aload_n 0, 1) := by decide +kernel
theorem dX2_wholeString_1 : decode cX2_wholeString 1 = .ok (.iload_n 1, 1) := by decide +kernel
theorem dX2_wholeString_2 : decode cX2_wholeString 2 = .ok (.putfield 97, 3) := by decide +kernel
theorem dX2_wholeString_5 : decode cX2_wholeString 5 = .ok (.aload_n 0, 1) := by decide +kernel
theorem dX2_wholeString_6 : decode cX2_wholeString 6 = .ok (.bipush 6, 2) := by decide +kernel
theorem dX2_wholeString_8 : decode cX2_wholeString 8 = .ok (.sipush 400, 3) := by decide +kernel
theorem dX2_wholeString_11 : decode cX2_wholeString 11 = .ok (.invokevirtual 100, 3) := by decide +kernel
theorem dX2_wholeString_14 : decode cX2_wholeString 14 = .ok (.ireturn, 1) := by decide +kernel
theorem dX3_init_0 : decode cX3_init 0 = .ok (.aload_n 0, 1) := by decide +kernel
theorem dX3_init_1 : decode cX3_init 1 = .ok (.invokespecial 3, 3) := by decide +kernel
theorem dX3_init_4 : decode cX3_init 4 = .ok (.aload_n 0, 1) := by decide +kernel
theorem dX3_init_5 : decode cX3_init 5 = .ok (.sipush 401, 3) := by decide +kernel
theorem dX3_init_8 : decode cX3_init 8 = .ok (.newarray .byte, 2) := by decide +kernel
theorem dX3_init_10 : decode cX3_init 10 = .ok (.putfield 9, 3) := by decide +kernel
theorem dX3_init_13 : decode cX3_init 13 = .ok (.aload_n 0, 1) := by decide +kernel
theorem dX3_init_14 : decode cX3_init 14 = .ok (.bipush 60, 2) := by decide +kernel
theorem dX3_init_16 : decode cX3_init 16 = .ok (.newarray .int, 2) := by decide +kernel
theorem dX3_init_18 : decode cX3_init 18 = .ok (.putfield 15, 3) := by decide +kernel
theorem dX3_init_21 : decode cX3_init 21 = .ok (.aload_n 0, 1) := by decide +kernel
theorem dX3_init_22 : decode cX3_init 22 = .ok (.bipush 60, 2) := by decide +kernel
theorem dX3_init_24 : decode cX3_init 24 = .ok (.newarray .double, 2) := by decide +kernel
theorem dX3_init_26 : decode cX3_init 26 = .ok (.putfield 19, 3) := by decide +kernel
theorem dX3_init_29 : decode cX3_init 29 = .ok (.return_, 1) := by decide +kernel
theorem dX3_startAt_0 : decode cX3_startAt 0 = .ok (.aload_n 0, 1) := by decide +kernel
theorem dX3_startAt_1 : decode cX3_startAt 1 = .ok (.iload_n 1, 1) := by decide +kernel
theorem dX3_startAt_2 : decode cX3_startAt 2 = .ok (.putfield 23, 3) := by decide +kernel
theorem dX3_startAt_5 : decode cX3_startAt 5 = .ok (.aload_n 0, 1) := by decide +kernel
theorem dX3_startAt_6 : decode cX3_startAt 6 = .ok (.iload_n 1, 1) := by decide +kernel
theorem dX3_startAt_7 : decode cX3_startAt 7 = .ok (.iconst 1, 1) := by decide +kernel
theorem dX3_startAt_8 : decode cX3_startAt 8 = .ok (.iadd, 1) := by decide +kernel
theorem dX3_startAt_9 : decode cX3_startAt 9 = .ok (.putfield 27, 3) := by decide +kernel
theorem dX3_startAt_12 : decode cX3_startAt 12 = .ok (.aload_n 0, 1) := by decide +kernel
theorem dX3_startAt_13 : decode cX3_startAt 13 = .ok (.lconst 0, 1) := by decide +kernel
theorem dX3_startAt_14 : decode cX3_startAt 14 = .ok (.putfield 30, 3) := by decide +kernel
theorem dX3_startAt_17 : decode cX3_startAt 17 = .ok (.aload_n 0, 1) := by decide +kernel
theorem dX3_startAt_18 : decode cX3_startAt 18 = .ok (.dconst 0, 1) := by decide +kernel
theorem dX3_startAt_19 : decode cX3_startAt 19 = .ok (.putfield 34, 3) := by decide +kernel
theorem dX3_startAt_22 : decode cX3_startAt 22 = .ok (.aload_n 0, 1) := by decide +kernel
theorem dX3_startAt_23 : decode cX3_startAt 23 = .ok (.iconst 0, 1) := by decide +kernel
theorem dX3_startAt_24 : decode cX3_startAt 24 = .ok (.putfield 38, 3) := by decide +kernel
theorem dX3_startAt_27 : decode cX3_startAt 27 = .ok (.aload_n 0, 1) := by decide +kernel
theorem dX3_startAt_28 : decode cX3_startAt 28 = .ok (.iconst 0, 1) := by decide +kernel
theorem dX3_startAt_29 : decode cX3_startAt 29 = .ok (.putfield 41, 3) := by decide +kernel
theorem dX3_startAt_32 : decode cX3_startAt 32 = .ok (.return_, 1) := by decide +kernel
theorem dX3_put_0 : decode cX3_put 0 = .ok (.aload_n 0, 1) := by decide +kernel
theorem dX3_put_1 : decode cX3_put 1 = .ok (.getfield 38, 3) := by decide +kernel
theorem dX3_put_4 : decode cX3_put 4 = .ok (.aload_n 0, 1) := by decide +kernel
theorem dX3_put_5 : decode cX3_put 5 = .ok (.getfield 9, 3) := by decide +kernel
theorem dX3_put_8 : decode cX3_put 8 = .ok (.arraylength, 1) := by decide +kernel
theorem dX3_put_9 : decode cX3_put 9 = .ok (.if_icmp .ge 24, 3) := by decide +kernel
theorem dX3_put_12 : decode cX3_put 12 = .ok (.aload_n 0, 1) := by decide +kernel
theorem dX3_put_13 : decode cX3_put 13 = .ok (.getfield 9, 3) := by decide +kernel
theorem dX3_put_16 : decode cX3_put 16 = .ok (.aload_n 0, 1) := by decide +kernel
theorem dX3_put_17 : decode cX3_put 17 = .ok (.getfield 38, 3) := by decide +kernel
theorem dX3_put_20 : decode cX3_put 20 = .ok (.iload_n 1, 1) := by decide +kernel
theorem dX3_put_21 : decode cX3_put 21 = .ok (.i2b, 1) := by decide +kernel
theorem dX3_put_22 : decode cX3_put 22 = .ok (.bastore, 1) := by decide +kernel
theorem dX3_put_23 : decode cX3_put 23 = .ok (.aload_n 0, 1) := by decide +kernel
theorem dX3_put_24 : decode cX3_put 24 = .ok (.dup, 1) := by decide +kernel
theorem dX3_put_25 : decode cX3_put 25 = .ok (.getfield 38, 3) := by decide +kernel
theorem dX3_put_28 : decode cX3_put 28 = .ok (.iconst 1, 1) := by decide +kernel
theorem dX3_put_29 : decode cX3_put 29 = .ok (.iadd, 1) := by decide +kernel
theorem dX3_put_30 : decode cX3_put 30 = .ok (.putfield 38, 3) := by decide +kernel
theorem dX3_put_33 : decode cX3_put 33 = .ok (.return_, 1) := by decide +kernel
theorem dX3_textAt_0 : decode cX3_textAt 0 = .ok (.iload_n 1, 1) := by decide +kernel
theorem dX3_textAt_1 : decode cX3_textAt 1 = .ok (.ifCond .lt 24, 3) := by decide +kernel
theorem dX3_textAt_4 : decode cX3_textAt 4 = .ok (.iload_n 1, 1) := by decide +kernel
theorem dX3_textAt_5 : decode cX3_textAt 5 = .ok (.aload_n 0, 1) := by decide +kernel
theorem dX3_textAt_6 : decode cX3_textAt 6 = .ok (.getfield 38, 3) := by decide +kernel
theorem dX3_textAt_9 : decode cX3_textAt 9 = .ok (.if_icmp .ge 16, 3) := by decide +kernel
theorem dX3_textAt_12 : decode cX3_textAt 12 = .ok (.aload_n 0, 1) := by decide +kernel
theorem dX3_textAt_13 : decode cX3_textAt 13 = .ok (.getfield 9, 3) := by decide +kernel
theorem dX3_textAt_16 : decode cX3_textAt 16 = .ok (.iload_n 1, 1) := by decide +kernel
theorem dX3_textAt_17 : decode cX3_textAt 17 = .ok (.baload, 1) := by decide +kernel
theorem dX3_textAt_18 : decode cX3_textAt 18 = .ok (.sipush 255, 3) := by decide +kernel
theorem dX3_textAt_21 : decode cX3_textAt 21 = .ok (.iand, 1) := by decide +kernel
theorem dX3_textAt_22 : decode cX3_textAt 22 = .ok (.goto 4, 3) := by decide +kernel
theorem dX3_textAt_25 : decode cX3_textAt 25 = .ok (.iconst (-1), 1) := by decide +kernel
theorem dX3_textAt_26 : decode cX3_textAt 26 = .ok (.ireturn, 1) := by decide +kernel
theorem dX3_asText_0 : decode cX3_asText 0 = .ok (.aload_n 0, 1) := by decide +kernel
theorem dX3_asText_1 : decode cX3_asText 1 = .ok (.getfield 38, 3) := by decide +kernel
theorem dX3_asText_4 : decode cX3_asText 4 = .ok (.iload_n 2, 1) := by decide +kernel
theorem dX3_asText_5 : decode cX3_asText 5 = .ok (.if_icmp .le 6, 3) := by decide +kernel
theorem dX3_asText_8 : decode cX3_asText 8 = .ok (.bipush (-2), 2) := by decide +kernel
theorem dX3_asText_10 : decode cX3_asText 10 = .ok (.ireturn, 1) := by decide +kernel
theorem dX3_asText_11 : decode cX3_asText 11 = .ok (.aload_n 0, 1) := by decide +kernel
theorem dX3_asText_12 : decode cX3_asText 12 = .ok (.aload_n 0, 1) := by decide +kernel
theorem dX3_asText_13 : decode cX3_asText 13 = .ok (.getfield 38, 3) := by decide +kernel
theorem dX3_asText_16 : decode cX3_asText 16 = .ok (.i2l, 1) := by decide +kernel
theorem dX3_asText_17 : decode cX3_asText 17 = .ok (.putfield 30, 3) := by decide +kernel
theorem dX3_asText_20 : decode cX3_asText 20 = .ok (.iload_n 1, 1) := by decide +kernel
theorem dX3_asText_21 : decode cX3_asText 21 = .ok (.ireturn, 1) := by decide +kernel
theorem dX3_asWhole_0 : decode cX3_asWhole 0 = .ok (.aload_n 0, 1) := by decide +kernel
theorem dX3_asWhole_1 : decode cX3_asWhole 1 = .ok (.iconst 0, 1) := by decide +kernel
theorem dX3_asWhole_2 : decode cX3_asWhole 2 = .ok (.putfield 38, 3) := by decide +kernel
theorem dX3_asWhole_5 : decode cX3_asWhole 5 = .ok (.aload_n 0, 1) := by decide +kernel
theorem dX3_asWhole_6 : decode cX3_asWhole 6 = .ok (.lload_n 2, 1) := by decide +kernel
theorem dX3_asWhole_7 : decode cX3_asWhole 7 = .ok (.putfield 30, 3) := by decide +kernel
theorem dX3_asWhole_10 : decode cX3_asWhole 10 = .ok (.iload_n 1, 1) := by decide +kernel
theorem dX3_asWhole_11 : decode cX3_asWhole 11 = .ok (.ireturn, 1) := by decide +kernel
theorem dX3_asReal_0 : decode cX3_asReal 0 = .ok (.aload_n 0, 1) := by decide +kernel
theorem dX3_asReal_1 : decode cX3_asReal 1 = .ok (.iconst 0, 1) := by decide +kernel
theorem dX3_asReal_2 : decode cX3_asReal 2 = .ok (.putfield 38, 3) := by decide +kernel
theorem dX3_asReal_5 : decode cX3_asReal 5 = .ok (.aload_n 0, 1) := by decide +kernel
theorem dX3_asReal_6 : decode cX3_asReal 6 = .ok (.lconst 0, 1) := by decide +kernel
theorem dX3_asReal_7 : decode cX3_asReal 7 = .ok (.putfield 30, 3) := by decide +kernel
theorem dX3_asReal_10 : decode cX3_asReal 10 = .ok (.aload_n 0, 1) := by decide +kernel
theorem dX3_asReal_11 : decode cX3_asReal 11 = .ok (.dload_n 1, 1) := by decide +kernel
theorem dX3_asReal_12 : decode cX3_asReal 12 = .ok (.putfield 34, 3) := by decide +kernel
theorem dX3_asReal_15 : decode cX3_asReal 15 = .ok (.iconst 2, 1) := by decide +kernel
theorem dX3_asReal_16 : decode cX3_asReal 16 = .ok (.ireturn, 1) := by decide +kernel
theorem dX3_putInRow_0 : decode cX3_putInRow 0 = .ok (.aload_n 0, 1) := by decide +kernel
theorem dX3_putInRow_1 : decode cX3_putInRow 1 = .ok (.getfield 41, 3) := by decide +kernel
theorem dX3_putInRow_4 : decode cX3_putInRow 4 = .ok (.aload_n 0, 1) := by decide +kernel
theorem dX3_putInRow_5 : decode cX3_putInRow 5 = .ok (.getfield 15, 3) := by decide +kernel
theorem dX3_putInRow_8 : decode cX3_putInRow 8 = .ok (.arraylength, 1) := by decide +kernel
theorem dX3_putInRow_9 : decode cX3_putInRow 9 = .ok (.if_icmp .ge 45, 3) := by decide +kernel
theorem dX3_putInRow_12 : decode cX3_putInRow 12 = .ok (.aload_n 0, 1) := by decide +kernel
theorem dX3_putInRow_13 : decode cX3_putInRow 13 = .ok (.getfield 41, 3) := by decide +kernel
theorem dX3_putInRow_16 : decode cX3_putInRow 16 = .ok (.aload_n 0, 1) := by decide +kernel
theorem dX3_putInRow_17 : decode cX3_putInRow 17 = .ok (.getfield 19, 3) := by decide +kernel
theorem dX3_putInRow_20 : decode cX3_putInRow 20 = .ok (.arraylength, 1) := by decide +kernel
theorem dX3_putInRow_21 : decode cX3_putInRow 21 = .ok (.if_icmp .ge 33, 3) := by decide +kernel
theorem dX3_putInRow_24 : decode cX3_putInRow 24 = .ok (.aload_n 0, 1) := by decide +kernel
theorem dX3_putInRow_25 : decode cX3_putInRow 25 = .ok (.getfield 15, 3) := by decide +kernel
theorem dX3_putInRow_28 : decode cX3_putInRow 28 = .ok (.aload_n 0, 1) := by decide +kernel
theorem dX3_putInRow_29 : decode cX3_putInRow 29 = .ok (.getfield 41, 3) := by decide +kernel
theorem dX3_putInRow_32 : decode cX3_putInRow 32 = .ok (.iload_n 1, 1) := by decide +kernel
theorem dX3_putInRow_33 : decode cX3_putInRow 33 = .ok (.iastore, 1) := by decide +kernel
theorem dX3_putInRow_34 : decode cX3_putInRow 34 = .ok (.aload_n 0, 1) := by decide +kernel
theorem dX3_putInRow_35 : decode cX3_putInRow 35 = .ok (.getfield 19, 3) := by decide +kernel
theorem dX3_putInRow_38 : decode cX3_putInRow 38 = .ok (.aload_n 0, 1) := by decide +kernel
theorem dX3_putInRow_39 : decode cX3_putInRow 39 = .ok (.getfield 41, 3) := by decide +kernel
theorem dX3_putInRow_42 : decode cX3_putInRow 42 = .ok (.dload_n 2, 1) := by decide +kernel
theorem dX3_putInRow_43 : decode cX3_putInRow 43 = .ok (.dastore, 1) := by decide +kernel
theorem dX3_putInRow_44 : decode cX3_putInRow 44 = .ok (.aload_n 0, 1) := by decide +kernel
theorem dX3_putInRow_45 : decode cX3_putInRow 45 = .ok (.dup, 1) := by decide +kernel
theorem dX3_putInRow_46 : decode cX3_putInRow 46 = .ok (.getfield 41, 3) := by decide +kernel
theorem dX3_putInRow_49 : decode cX3_putInRow 49 = .ok (.iconst 1, 1) := by decide +kernel
theorem dX3_putInRow_50 : decode cX3_putInRow 50 = .ok (.iadd, 1) := by decide +kernel
theorem dX3_putInRow_51 : decode cX3_putInRow 51 = .ok (.putfield 41, 3) := by decide +kernel
theorem dX3_putInRow_54 : decode cX3_putInRow 54 = .ok (.return_, 1) := by decide +kernel
theorem dX3_hasInRow_0 : decode cX3_hasInRow 0 = .ok (.iload_n 1, 1) := by decide +kernel
theorem dX3_hasInRow_1 : decode cX3_hasInRow 1 = .ok (.ifCond .lt 15, 3) := by decide +kernel
theorem dX3_hasInRow_4 : decode cX3_hasInRow 4 = .ok (.iload_n 1, 1) := by decide +kernel
theorem dX3_hasInRow_5 : decode cX3_hasInRow 5 = .ok (.aload_n 0, 1) := by decide +kernel
theorem dX3_hasInRow_6 : decode cX3_hasInRow 6 = .ok (.getfield 41, 3) := by decide +kernel
theorem dX3_hasInRow_9 : decode cX3_hasInRow 9 = .ok (.if_icmp .ge 7, 3) := by decide +kernel
theorem dX3_hasInRow_12 : decode cX3_hasInRow 12 = .ok (.iconst 1, 1) := by decide +kernel
theorem dX3_hasInRow_13 : decode cX3_hasInRow 13 = .ok (.goto 4, 3) := by decide +kernel
theorem dX3_hasInRow_16 : decode cX3_hasInRow 16 = .ok (.iconst 0, 1) := by decide +kernel
theorem dX3_hasInRow_17 : decode cX3_hasInRow 17 = .ok (.ireturn, 1) := by decide +kernel
theorem dX3_wrongByte_0 : decode cX3_wrongByte 0 = .ok (.aload_n 0, 1) := by decide +kernel
theorem dX3_wrongByte_1 : decode cX3_wrongByte 1 = .ok (.iload_n 2, 1) := by decide +kernel
theorem dX3_wrongByte_2 : decode cX3_wrongByte 2 = .ok (.putfield 23, 3) := by decide +kernel
theorem dX3_wrongByte_5 : decode cX3_wrongByte 5 = .ok (.aload_n 0, 1) := by decide +kernel
theorem dX3_wrongByte_6 : decode cX3_wrongByte 6 = .ok (.iload_n 2, 1) := by decide +kernel
theorem dX3_wrongByte_7 : decode cX3_wrongByte 7 = .ok (.iconst 1, 1) := by decide +kernel
theorem dX3_wrongByte_8 : decode cX3_wrongByte 8 = .ok (.iadd, 1) := by decide +kernel
theorem dX3_wrongByte_9 : decode cX3_wrongByte 9 = .ok (.putfield 27, 3) := by decide +kernel
theorem dX3_wrongByte_12 : decode cX3_wrongByte 12 = .ok (.iload_n 1, 1) := by decide +kernel
theorem dX3_wrongByte_13 : decode cX3_wrongByte 13 = .ok (.ireturn, 1) := by decide +kernel
theorem dX4_init_0 : decode cX4_init 0 = .ok (.aload_n 0, 1) := by decide +kernel
theorem dX4_init_1 : decode cX4_init 1 = .ok (.invokespecial 3, 3) := by decide +kernel
theorem dX4_init_4 : decode cX4_init 4 = .ok (.aload_n 0, 1) := by decide +kernel
theorem dX4_init_5 : decode cX4_init 5 = .ok (.bipush 10, 2) := by decide +kernel
theorem dX4_init_7 : decode cX4_init 7 = .ok (.putfield 9, 3) := by decide +kernel
theorem dX4_init_10 : decode cX4_init 10 = .ok (.aload_n 0, 1) := by decide +kernel
theorem dX4_init_11 : decode cX4_init 11 = .ok (.aload_n 1, 1) := by decide +kernel
theorem dX4_init_12 : decode cX4_init 12 = .ok (.putfield 15, 3) := by decide +kernel
theorem dX4_init_15 : decode cX4_init 15 = .ok (.return_, 1) := by decide +kernel
theorem dX4_readSlashed_0 : decode cX4_readSlashed 0 = .ok (.aload_n 1, 1) := by decide +kernel
theorem dX4_readSlashed_1 : decode cX4_readSlashed 1 = .ok (.getfield 19, 3) := by decide +kernel
theorem dX4_readSlashed_4 : decode cX4_readSlashed 4 = .ok (.iconst 1, 1) := by decide +kernel
theorem dX4_readSlashed_5 : decode cX4_readSlashed 5 = .ok (.iadd, 1) := by decide +kernel
theorem dX4_readSlashed_6 : decode cX4_readSlashed 6 = .ok (.istore_n 2, 1) := by decide +kernel
theorem dX4_readSlashed_7 : decode cX4_readSlashed 7 = .ok (.aload_n 0, 1) := by decide +kernel
theorem dX4_readSlashed_8 : decode cX4_readSlashed 8 = .ok (.getfield 15, 3) := by decide +kernel
theorem dX4_readSlashed_11 : decode cX4_readSlashed 11 = .ok (.iload_n 2, 1) := by decide +kernel
theorem dX4_readSlashed_12 : decode cX4_readSlashed 12 = .ok (.invokevirtual 24, 3) := by decide +kernel
theorem dX4_readSlashed_15 : decode cX4_readSlashed 15 = .ok (.bipush 47, 2) := by decide +kernel
theorem dX4_readSlashed_17 : decode cX4_readSlashed 17 = .ok (.if_icmp .ne 13, 3) := by decide +kernel
theorem dX4_readSlashed_20 : decode cX4_readSlashed 20 = .ok (.aload_n 0, 1) := by decide +kernel
theorem dX4_readSlashed_21 : decode cX4_readSlashed 21 = .ok (.aload_n 1, 1) := by decide +kernel
theorem dX4_readSlashed_22 : decode cX4_readSlashed 22 = .ok (.iconst 5, 1) := by decide +kernel
theorem dX4_readSlashed_23 : decode cX4_readSlashed 23 = .ok (.iload_n 2, 1) := by decide +kernel
theorem dX4_readSlashed_24 : decode cX4_readSlashed 24 = .ok (.iconst 1, 1) := by decide +kernel
theorem dX4_readSlashed_25 : decode cX4_readSlashed 25 = .ok (.iadd, 1) := by decide +kernel
theorem dX4_readSlashed_26 : decode cX4_readSlashed 26 = .ok (.invokevirtual 30, 3) := by decide +kernel
theorem dX4_readSlashed_29 : decode cX4_readSlashed 29 = .ok (.ireturn, 1) := by decide +kernel
theorem dX4_readSlashed_30 : decode cX4_readSlashed 30 = .ok (.aload_n 0, 1) := by decide +kernel
theorem dX4_readSlashed_31 : decode cX4_readSlashed 31 = .ok (.aload_n 1, 1) := by decide +kernel
theorem dX4_readSlashed_32 : decode cX4_readSlashed 32 = .ok (.iconst 4, 1) := by decide +kernel
theorem dX4_readSlashed_33 : decode cX4_readSlashed 33 = .ok (.iload_n 2, 1) := by decide +kernel
theorem dX4_readSlashed_34 : decode cX4_readSlashed 34 = .ok (.invokevirtual 30, 3) := by decide +kernel
theorem dX4_readSlashed_37 : decode cX4_readSlashed 37 = .ok (.ireturn, 1) := by decide +kernel
theorem dX4_readWord_0 : decode cX4_readWord 0 = .ok (.aload_n 0, 1) := by decide +kernel
theorem dX4_readWord_1 : decode cX4_readWord 1 = .ok (.aload_n 1, 1) := by decide +kernel
theorem dX4_readWord_2 : decode cX4_readWord 2 = .ok (.iconst 3, 1) := by decide +kernel
theorem dX4_readWord_3 : decode cX4_readWord 3 = .ok (.aload_n 1, 1) := by decide +kernel
theorem dX4_readWord_4 : decode cX4_readWord 4 = .ok (.getfield 19, 3) := by decide +kernel
theorem dX4_readWord_7 : decode cX4_readWord 7 = .ok (.invokevirtual 30, 3) := by decide +kernel
theorem dX4_readWord_10 : decode cX4_readWord 10 = .ok (.istore_n 2, 1) := by decide +kernel
theorem dX4_readWord_11 : decode cX4_readWord 11 = .ok (.iload_n 2, 1) := by decide +kernel
theorem dX4_readWord_12 : decode cX4_readWord 12 = .ok (.iconst 3, 1) := by decide +kernel
theorem dX4_readWord_13 : decode cX4_readWord 13 = .ok (.if_icmp .ne 9, 3) := by decide +kernel
theorem dX4_readWord_16 : decode cX4_readWord 16 = .ok (.aload_n 0, 1) := by decide +kernel
theorem dX4_readWord_17 : decode cX4_readWord 17 = .ok (.aload_n 1, 1) := by decide +kernel
theorem dX4_readWord_18 : decode cX4_readWord 18 = .ok (.invokevirtual 34, 3) := by decide +kernel
theorem dX4_readWord_21 : decode cX4_readWord 21 = .ok (.istore_n 2, 1) := by decide +kernel
theorem dX4_readWord_22 : decode cX4_readWord 22 = .ok (.iload_n 2, 1) := by decide +kernel
theorem dX4_readWord_23 : decode cX4_readWord 23 = .ok (.iconst 3, 1) := by decide +kernel
theorem dX4_readWord_24 : decode cX4_readWord 24 = .ok (.if_icmp .ne 9, 3) := by decide +kernel
theorem dX4_readWord_27 : decode cX4_readWord 27 = .ok (.aload_n 0, 1) := by decide +kernel
theorem dX4_readWord_28 : decode cX4_readWord 28 = .ok (.aload_n 1, 1) := by decide +kernel
theorem dX4_readWord_29 : decode cX4_readWord 29 = .ok (.invokevirtual 38, 3) := by decide +kernel
theorem dX4_readWord_32 : decode cX4_readWord 32 = .ok (.istore_n 2, 1) := by decide +kernel
theorem dX4_readWord_33 : decode cX4_readWord 33 = .ok (.iload_n 2, 1) := by decide +kernel
theorem dX4_readWord_34 : decode cX4_readWord 34 = .ok (.iconst 3, 1) := by decide +kernel
theorem dX4_readWord_35 : decode cX4_readWord 35 = .ok (.if_icmp .ne 9, 3) := by decide +kernel
theorem dX4_readWord_38 : decode cX4_readWord 38 = .ok (.aload_n 0, 1) := by decide +kernel
theorem dX4_readWord_39 : decode cX4_readWord 39 = .ok (.aload_n 1, 1) := by decide +kernel
theorem dX4_readWord_40 : decode cX4_readWord 40 = .ok (.invokevirtual 41, 3) := by decide +kernel
theorem dX4_readWord_43 : decode cX4_readWord 43 = .ok (.istore_n 2, 1) := by decide +kernel
theorem dX4_readWord_44 : decode cX4_readWord 44 = .ok (.iload_n 2, 1) := by decide +kernel
theorem dX4_readWord_45 : decode cX4_readWord 45 = .ok (.ireturn, 1) := by decide +kernel
theorem dX4_readText_0 : decode cX4_readText 0 = .ok (.aload_n 0, 1) := by decide +kernel
theorem dX4_readText_1 : decode cX4_readText 1 = .ok (.getfield 15, 3) := by decide +kernel
theorem dX4_readText_4 : decode cX4_readText 4 = .ok (.iload_n 3, 1) := by decide +kernel
theorem dX4_readText_5 : decode cX4_readText 5 = .ok (.invokevirtual 44, 3) := by decide +kernel
theorem dX4_readText_8 : decode cX4_readText 8 = .ok (.istore 4, 2) := by decide +kernel
theorem dX4_readText_10 : decode cX4_readText 10 = .ok (.iload 4, 2) := by decide +kernel
theorem dX4_readText_12 : decode cX4_readText 12 = .ok (.aload_n 0, 1) := by decide +kernel
theorem dX4_readText_13 : decode cX4_readText 13 = .ok (.getfield 15, 3) := by decide +kernel
theorem dX4_readText_16 : decode cX4_readText 16 = .ok (.getfield 47, 3) := by decide +kernel
theorem dX4_readText_19 : decode cX4_readText 19 = .ok (.if_icmp .ne 15, 3) := by decide +kernel
theorem dX4_readText_22 : decode cX4_readText 22 = .ok (.aload_n 0, 1) := by decide +kernel
theorem dX4_readText_23 : decode cX4_readText 23 = .ok (.getfield 15, 3) := by decide +kernel
theorem dX4_readText_26 : decode cX4_readText 26 = .ok (.getfield 50, 3) := by decide +kernel
theorem dX4_readText_29 : decode cX4_readText 29 = .ok (.ifCond .ne 5, 3) := by decide +kernel
theorem dX4_readText_32 : decode cX4_readText 32 = .ok (.iconst 0, 1) := by decide +kernel
theorem dX4_readText_33 : decode cX4_readText 33 = .ok (.ireturn, 1) := by decide +kernel
theorem dX4_readText_34 : decode cX4_readText 34 = .ok (.iload_n 3, 1) := by decide +kernel
theorem dX4_readText_35 : decode cX4_readText 35 = .ok (.istore 5, 2) := by decide +kernel
theorem dX4_readText_37 : decode cX4_readText 37 = .ok (.iload 5, 2) := by decide +kernel
theorem dX4_readText_39 : decode cX4_readText 39 = .ok (.iload 4, 2) := by decide +kernel
theorem dX4_readText_41 : decode cX4_readText 41 = .ok (.if_icmp .ge 22, 3) := by decide +kernel
theorem dX4_readText_44 : decode cX4_readText 44 = .ok (.aload_n 1, 1) := by decide +kernel
theorem dX4_readText_45 : decode cX4_readText 45 = .ok (.aload_n 0, 1) := by decide +kernel
theorem dX4_readText_46 : decode cX4_readText 46 = .ok (.getfield 15, 3) := by decide +kernel
theorem dX4_readText_49 : decode cX4_readText 49 = .ok (.iload 5, 2) := by decide +kernel
theorem dX4_readText_51 : decode cX4_readText 51 = .ok (.invokevirtual 24, 3) := by decide +kernel
theorem dX4_readText_54 : decode cX4_readText 54 = .ok (.invokevirtual 54, 3) := by decide +kernel
theorem dX4_readText_57 : decode cX4_readText 57 = .ok (.iinc 5 1, 3) := by decide +kernel
theorem dX4_readText_60 : decode cX4_readText 60 = .ok (.goto (-23), 3) := by decide +kernel
theorem dX4_readText_63 : decode cX4_readText 63 = .ok (.aload_n 1, 1) := by decide +kernel
theorem dX4_readText_64 : decode cX4_readText 64 = .ok (.iload 4, 2) := by decide +kernel
theorem dX4_readText_66 : decode cX4_readText 66 = .ok (.putfield 58, 3) := by decide +kernel
theorem dX4_readText_69 : decode cX4_readText 69 = .ok (.aload_n 1, 1) := by decide +kernel
theorem dX4_readText_70 : decode cX4_readText 70 = .ok (.iload_n 2, 1) := by decide +kernel
theorem dX4_readText_71 : decode cX4_readText 71 = .ok (.bipush 100, 2) := by decide +kernel
theorem dX4_readText_73 : decode cX4_readText 73 = .ok (.invokevirtual 61, 3) := by decide +kernel
theorem dX4_readText_76 : decode cX4_readText 76 = .ok (.ireturn, 1) := by decide +kernel
theorem dX4_readInteger_0 : decode cX4_readInteger 0 = .ok (.aload_n 1, 1) := by decide +kernel
theorem dX4_readInteger_1 : decode cX4_readInteger 1 = .ok (.iconst 0, 1) := by decide +kernel
theorem dX4_readInteger_2 : decode cX4_readInteger 2 = .ok (.invokestatic 65, 3) := by decide +kernel
theorem dX4_readInteger_5 : decode cX4_readInteger 5 = .ok (.istore_n 2, 1) := by decide +kernel
theorem dX4_readInteger_6 : decode cX4_readInteger 6 = .ok (.iload_n 2, 1) := by decide +kernel
theorem dX4_readInteger_7 : decode cX4_readInteger 7 = .ok (.aload_n 1, 1) := by decide +kernel
theorem dX4_readInteger_8 : decode cX4_readInteger 8 = .ok (.getfield 69, 3) := by decide +kernel
theorem dX4_readInteger_11 : decode cX4_readInteger 11 = .ok (.if_icmp .eq 17, 3) := by decide +kernel
theorem dX4_readInteger_14 : decode cX4_readInteger 14 = .ok (.aload_n 1, 1) := by decide +kernel
theorem dX4_readInteger_15 : decode cX4_readInteger 15 = .ok (.iload_n 2, 1) := by decide +kernel
theorem dX4_readInteger_16 : decode cX4_readInteger 16 = .ok (.bipush 10, 2) := by decide +kernel
theorem dX4_readInteger_18 : decode cX4_readInteger 18 = .ok (.invokestatic 72, 3) := by decide +kernel
theorem dX4_readInteger_21 : decode cX4_readInteger 21 = .ok (.aload_n 1, 1) := by decide +kernel
theorem dX4_readInteger_22 : decode cX4_readInteger 22 = .ok (.getfield 69, 3) := by decide +kernel
theorem dX4_readInteger_25 : decode cX4_readInteger 25 = .ok (.if_icmp .eq 5, 3) := by decide +kernel
theorem dX4_readInteger_28 : decode cX4_readInteger 28 = .ok (.iconst 3, 1) := by decide +kernel
theorem dX4_readInteger_29 : decode cX4_readInteger 29 = .ok (.ireturn, 1) := by decide +kernel
theorem dX4_readInteger_30 : decode cX4_readInteger 30 = .ok (.aload_n 1, 1) := by decide +kernel
theorem dX4_readInteger_31 : decode cX4_readInteger 31 = .ok (.iload_n 2, 1) := by decide +kernel
theorem dX4_readInteger_32 : decode cX4_readInteger 32 = .ok (.aload_n 1, 1) := by decide +kernel
theorem dX4_readInteger_33 : decode cX4_readInteger 33 = .ok (.getfield 69, 3) := by decide +kernel
theorem dX4_readInteger_36 : decode cX4_readInteger 36 = .ok (.bipush 10, 2) := by decide +kernel
theorem dX4_readInteger_38 : decode cX4_readInteger 38 = .ok (.invokestatic 75, 3) := by decide +kernel
theorem dX4_readInteger_41 : decode cX4_readInteger 41 = .ok (.lstore_n 3, 1) := by decide +kernel
theorem dX4_readInteger_42 : decode cX4_readInteger 42 = .ok (.aload_n 1, 1) := by decide +kernel
theorem dX4_readInteger_43 : decode cX4_readInteger 43 = .ok (.iconst 0, 1) := by decide +kernel
theorem dX4_readInteger_44 : decode cX4_readInteger 44 = .ok (.invokevirtual 79, 3) := by decide +kernel
theorem dX4_readInteger_47 : decode cX4_readInteger 47 = .ok (.bipush 45, 2) := by decide +kernel
theorem dX4_readInteger_49 : decode cX4_readInteger 49 = .ok (.if_icmp .ne 8, 3) := by decide +kernel
theorem dX4_readInteger_52 : decode cX4_readInteger 52 = .ok (.lload_n 3, 1) := by decide +kernel
theorem dX4_readInteger_53 : decode cX4_readInteger 53 = .ok (.lneg, 1) := by decide +kernel
theorem dX4_readInteger_54 : decode cX4_readInteger 54 = .ok (.goto 4, 3) := by decide +kernel
theorem dX4_readInteger_57 : decode cX4_readInteger 57 = .ok (.lload_n 3, 1) := by decide +kernel
theorem dX4_readInteger_58 : decode cX4_readInteger 58 = .ok (.lstore 5, 2) := by decide +kernel
theorem dX4_readInteger_60 : decode cX4_readInteger 60 = .ok (.lload 5, 2) := by decide +kernel
theorem dX4_readInteger_62 : decode cX4_readInteger 62 = .ok (.ldc2_w 82, 3) := by decide +kernel
theorem dX4_readInteger_65 : decode cX4_readInteger 65 = .ok (.lcmp, 1) := by decide +kernel
theorem dX4_readInteger_66 : decode cX4_readInteger 66 = .ok (.ifCond .lt 12, 3) := by decide +kernel
theorem dX4_readInteger_69 : decode cX4_readInteger 69 = .ok (.lload 5, 2) := by decide +kernel
theorem dX4_readInteger_71 : decode cX4_readInteger 71 = .ok (.ldc2_w 84, 3) := by decide +kernel
theorem dX4_readInteger_74 : decode cX4_readInteger 74 = .ok (.lcmp, 1) := by decide +kernel
theorem dX4_readInteger_75 : decode cX4_readInteger 75 = .ok (.ifCond .le 5, 3) := by decide +kernel
theorem dX4_readInteger_78 : decode cX4_readInteger 78 = .ok (.iconst 3, 1) := by decide +kernel
theorem dX4_readInteger_79 : decode cX4_readInteger 79 = .ok (.ireturn, 1) := by decide +kernel
theorem dX4_readInteger_80 : decode cX4_readInteger 80 = .ok (.aload_n 0, 1) := by decide +kernel
theorem dX4_readInteger_81 : decode cX4_readInteger 81 = .ok (.bipush 10, 2) := by decide +kernel
theorem dX4_readInteger_83 : decode cX4_readInteger 83 = .ok (.putfield 9, 3) := by decide +kernel
theorem dX4_readInteger_86 : decode cX4_readInteger 86 = .ok (.aload_n 1, 1) := by decide +kernel
theorem dX4_readInteger_87 : decode cX4_readInteger 87 = .ok (.iconst 1, 1) := by decide +kernel
theorem dX4_readInteger_88 : decode cX4_readInteger 88 = .ok (.lload 5, 2) := by decide +kernel
theorem dX4_readInteger_90 : decode cX4_readInteger 90 = .ok (.invokevirtual 86, 3) := by decide +kernel
theorem dX4_readInteger_93 : decode cX4_readInteger 93 = .ok (.ireturn, 1) := by decide +kernel
theorem dX4_readWithBase_0 : decode cX4_readWithBase 0 = .ok (.aload_n 1, 1) := by decide +kernel
theorem dX4_readWithBase_1 : decode cX4_readWithBase 1 = .ok (.iconst 0, 1) := by decide +kernel
theorem dX4_readWithBase_2 : decode cX4_readWithBase 2 = .ok (.bipush 10, 2) := by decide +kernel
theorem dX4_readWithBase_4 : decode cX4_readWithBase 4 = .ok (.invokestatic 72, 3) := by decide +kernel
theorem dX4_readWithBase_7 : decode cX4_readWithBase 7 = .ok (.istore_n 2, 1) := by decide +kernel
theorem dX4_readWithBase_8 : decode cX4_readWithBase 8 = .ok (.iload_n 2, 1) := by decide +kernel
theorem dX4_readWithBase_9 : decode cX4_readWithBase 9 = .ok (.iconst 1, 1) := by decide +kernel
theorem dX4_readWithBase_10 : decode cX4_readWithBase 10 = .ok (.if_icmp .lt 18, 3) := by decide +kernel
theorem dX4_readWithBase_13 : decode cX4_readWithBase 13 = .ok (.iload_n 2, 1) := by decide +kernel
theorem dX4_readWithBase_14 : decode cX4_readWithBase 14 = .ok (.iconst 2, 1) := by decide +kernel
theorem dX4_readWithBase_15 : decode cX4_readWithBase 15 = .ok (.if_icmp .gt 13, 3) := by decide +kernel
theorem dX4_readWithBase_18 : decode cX4_readWithBase 18 = .ok (.aload_n 1, 1) := by decide +kernel
theorem dX4_readWithBase_19 : decode cX4_readWithBase 19 = .ok (.iload_n 2, 1) := by decide +kernel
theorem dX4_readWithBase_20 : decode cX4_readWithBase 20 = .ok (.invokevirtual 79, 3) := by decide +kernel
theorem dX4_readWithBase_23 : decode cX4_readWithBase 23 = .ok (.bipush 35, 2) := by decide +kernel
theorem dX4_readWithBase_25 : decode cX4_readWithBase 25 = .ok (.if_icmp .eq 5, 3) := by decide +kernel
theorem dX4_readWithBase_28 : decode cX4_readWithBase 28 = .ok (.iconst 3, 1) := by decide +kernel
theorem dX4_readWithBase_29 : decode cX4_readWithBase 29 = .ok (.ireturn, 1) := by decide +kernel
theorem dX4_readWithBase_30 : decode cX4_readWithBase 30 = .ok (.iload_n 2, 1) := by decide +kernel
theorem dX4_readWithBase_31 : decode cX4_readWithBase 31 = .ok (.iconst 1, 1) := by decide +kernel
theorem dX4_readWithBase_32 : decode cX4_readWithBase 32 = .ok (.iadd, 1) := by decide +kernel
theorem dX4_readWithBase_33 : decode cX4_readWithBase 33 = .ok (.istore_n 3, 1) := by decide +kernel
theorem dX4_readWithBase_34 : decode cX4_readWithBase 34 = .ok (.aload_n 1, 1) := by decide +kernel
theorem dX4_readWithBase_35 : decode cX4_readWithBase 35 = .ok (.iconst 0, 1) := by decide +kernel
theorem dX4_readWithBase_36 : decode cX4_readWithBase 36 = .ok (.iload_n 2, 1) := by decide +kernel
theorem dX4_readWithBase_37 : decode cX4_readWithBase 37 = .ok (.bipush 10, 2) := by decide +kernel
theorem dX4_readWithBase_39 : decode cX4_readWithBase 39 = .ok (.invokestatic 75, 3) := by decide +kernel
theorem dX4_readWithBase_42 : decode cX4_readWithBase 42 = .ok (.l2i, 1) := by decide +kernel
theorem dX4_readWithBase_43 : decode cX4_readWithBase 43 = .ok (.istore 4, 2) := by decide +kernel
theorem dX4_readWithBase_45 : decode cX4_readWithBase 45 = .ok (.iload 4, 2) := by decide +kernel
theorem dX4_readWithBase_47 : decode cX4_readWithBase 47 = .ok (.iconst 2, 1) := by decide +kernel
theorem dX4_readWithBase_48 : decode cX4_readWithBase 48 = .ok (.if_icmp .lt 32, 3) := by decide +kernel
theorem dX4_readWithBase_51 : decode cX4_readWithBase 51 = .ok (.iload 4, 2) := by decide +kernel
theorem dX4_readWithBase_53 : decode cX4_readWithBase 53 = .ok (.bipush 36, 2) := by decide +kernel
theorem dX4_readWithBase_55 : decode cX4_readWithBase 55 = .ok (.if_icmp .gt 25, 3) := by decide +kernel
theorem dX4_readWithBase_58 : decode cX4_readWithBase 58 = .ok (.iload_n 3, 1) := by decide +kernel
theorem dX4_readWithBase_59 : decode cX4_readWithBase 59 = .ok (.aload_n 1, 1) := by decide +kernel
theorem dX4_readWithBase_60 : decode cX4_readWithBase 60 = .ok (.getfield 69, 3) := by decide +kernel
theorem dX4_readWithBase_63 : decode cX4_readWithBase 63 = .ok (.if_icmp .eq 17, 3) := by decide +kernel
theorem dX4_readWithBase_66 : decode cX4_readWithBase 66 = .ok (.aload_n 1, 1) := by decide +kernel
theorem dX4_readWithBase_67 : decode cX4_readWithBase 67 = .ok (.iload_n 3, 1) := by decide +kernel
theorem dX4_readWithBase_68 : decode cX4_readWithBase 68 = .ok (.iload 4, 2) := by decide +kernel
theorem dX4_readWithBase_70 : decode cX4_readWithBase 70 = .ok (.invokestatic 72, 3) := by decide +kernel
theorem dX4_readWithBase_73 : decode cX4_readWithBase 73 = .ok (.aload_n 1, 1) := by decide +kernel
theorem dX4_readWithBase_74 : decode cX4_readWithBase 74 = .ok (.getfield 69, 3) := by decide +kernel
theorem dX4_readWithBase_77 : decode cX4_readWithBase 77 = .ok (.if_icmp .eq 5, 3) := by decide +kernel
theorem dX4_readWithBase_80 : decode cX4_readWithBase 80 = .ok (.iconst 3, 1) := by decide +kernel
theorem dX4_readWithBase_81 : decode cX4_readWithBase 81 = .ok (.ireturn, 1) := by decide +kernel
theorem dX4_readWithBase_82 : decode cX4_readWithBase 82 = .ok (.aload_n 1, 1) := by decide +kernel
theorem dX4_readWithBase_83 : decode cX4_readWithBase 83 = .ok (.iload_n 3, 1) := by decide +kernel
theorem dX4_readWithBase_84 : decode cX4_readWithBase 84 = .ok (.aload_n 1, 1) := by decide +kernel
theorem dX4_readWithBase_85 : decode cX4_readWithBase 85 = .ok (.getfield 69, 3) := by decide +kernel
theorem dX4_readWithBase_88 : decode cX4_readWithBase 88 = .ok (.iload 4, 2) := by decide +kernel
theorem dX4_readWithBase_90 : decode cX4_readWithBase 90 = .ok (.invokestatic 75, 3) := by decide +kernel
theorem dX4_readWithBase_93 : decode cX4_readWithBase 93 = .ok (.lstore 5, 2) := by decide +kernel
theorem dX4_readWithBase_95 : decode cX4_readWithBase 95 = .ok (.lload 5, 2) := by decide +kernel
theorem dX4_readWithBase_97 : decode cX4_readWithBase 97 = .ok (.ldc2_w 90, 3) := by decide +kernel
theorem dX4_readWithBase_100 : decode cX4_readWithBase 100 = .ok (.lcmp, 1) := by decide +kernel
theorem dX4_readWithBase_101 : decode cX4_readWithBase 101 = .ok (.ifCond .lt 6, 3) := by decide +kernel
theorem dX4_readWithBase_104 : decode cX4_readWithBase 104 = .ok (.bipush (-6), 2) := by decide +kernel
theorem dX4_readWithBase_106 : decode cX4_readWithBase 106 = .ok (.ireturn, 1) := by decide +kernel
theorem dX4_readWithBase_107 : decode cX4_readWithBase 107 = .ok (.aload_n 0, 1) := by decide +kernel
theorem dX4_readWithBase_108 : decode cX4_readWithBase 108 = .ok (.iload 4, 2) := by decide +kernel
theorem dX4_readWithBase_110 : decode cX4_readWithBase 110 = .ok (.putfield 9, 3) := by decide +kernel
theorem dX4_readWithBase_113 : decode cX4_readWithBase 113 = .ok (.aload_n 1, 1) := by decide +kernel
theorem dX4_readWithBase_114 : decode cX4_readWithBase 114 = .ok (.iconst 1, 1) := by decide +kernel
theorem dX4_readWithBase_115 : decode cX4_readWithBase 115 = .ok (.lload 5, 2) := by decide +kernel
theorem dX4_readWithBase_117 : decode cX4_readWithBase 117 = .ok (.ldc2_w 84, 3) := by decide +kernel
theorem dX4_readWithBase_120 : decode cX4_readWithBase 120 = .ok (.lcmp, 1) := by decide +kernel
theorem dX4_readWithBase_121 : decode cX4_readWithBase 121 = .ok (.ifCond .le 12, 3) := by decide +kernel
theorem dX4_readWithBase_124 : decode cX4_readWithBase 124 = .ok (.lload 5, 2) := by decide +kernel
theorem dX4_readWithBase_126 : decode cX4_readWithBase 126 = .ok (.ldc2_w 90, 3) := by decide +kernel
theorem dX4_readWithBase_129 : decode cX4_readWithBase 129 = .ok (.lsub, 1) := by decide +kernel
theorem dX4_readWithBase_130 : decode cX4_readWithBase 130 = .ok (.goto 5, 3) := by decide +kernel
theorem dX4_readWithBase_133 : decode cX4_readWithBase 133 = .ok (.lload 5, 2) := by decide +kernel
theorem dX4_readWithBase_135 : decode cX4_readWithBase 135 = .ok (.invokevirtual 86, 3) := by decide +kernel
theorem dX4_readWithBase_138 : decode cX4_readWithBase 138 = .ok (.ireturn, 1) := by decide +kernel
theorem dX4_readReal_0 : decode cX4_readReal 0 = .ok (.aload_n 1, 1) := by decide +kernel
theorem dX4_readReal_1 : decode cX4_readReal 1 = .ok (.iconst 0, 1) := by decide +kernel
theorem dX4_readReal_2 : decode cX4_readReal 2 = .ok (.invokestatic 65, 3) := by decide +kernel
theorem dX4_readReal_5 : decode cX4_readReal 5 = .ok (.istore_n 2, 1) := by decide +kernel
theorem dX4_readReal_6 : decode cX4_readReal 6 = .ok (.aload_n 1, 1) := by decide +kernel
theorem dX4_readReal_7 : decode cX4_readReal 7 = .ok (.iload_n 2, 1) := by decide +kernel
theorem dX4_readReal_8 : decode cX4_readReal 8 = .ok (.bipush 10, 2) := by decide +kernel
theorem dX4_readReal_10 : decode cX4_readReal 10 = .ok (.invokestatic 72, 3) := by decide +kernel
theorem dX4_readReal_13 : decode cX4_readReal 13 = .ok (.istore_n 3, 1) := by decide +kernel
theorem dX4_readReal_14 : decode cX4_readReal 14 = .ok (.aload_n 1, 1) := by decide +kernel
theorem dX4_readReal_15 : decode cX4_readReal 15 = .ok (.iload_n 3, 1) := by decide +kernel
theorem dX4_readReal_16 : decode cX4_readReal 16 = .ok (.invokevirtual 79, 3) := by decide +kernel
theorem dX4_readReal_19 : decode cX4_readReal 19 = .ok (.bipush 46, 2) := by decide +kernel
theorem dX4_readReal_21 : decode cX4_readReal 21 = .ok (.if_icmp .ne 7, 3) := by decide +kernel
theorem dX4_readReal_24 : decode cX4_readReal 24 = .ok (.iconst 1, 1) := by decide +kernel
theorem dX4_readReal_25 : decode cX4_readReal 25 = .ok (.goto 4, 3) := by decide +kernel
theorem dX4_readReal_28 : decode cX4_readReal 28 = .ok (.iconst 0, 1) := by decide +kernel
theorem dX4_readReal_29 : decode cX4_readReal 29 = .ok (.istore 4, 2) := by decide +kernel
theorem dX4_readReal_31 : decode cX4_readReal 31 = .ok (.iload 4, 2) := by decide +kernel
theorem dX4_readReal_33 : decode cX4_readReal 33 = .ok (.ifCond .eq 15, 3) := by decide +kernel
theorem dX4_readReal_36 : decode cX4_readReal 36 = .ok (.aload_n 1, 1) := by decide +kernel
theorem dX4_readReal_37 : decode cX4_readReal 37 = .ok (.iload_n 3, 1) := by decide +kernel
theorem dX4_readReal_38 : decode cX4_readReal 38 = .ok (.iconst 1, 1) := by decide +kernel
theorem dX4_readReal_39 : decode cX4_readReal 39 = .ok (.iadd, 1) := by decide +kernel
theorem dX4_readReal_40 : decode cX4_readReal 40 = .ok (.bipush 10, 2) := by decide +kernel
theorem dX4_readReal_42 : decode cX4_readReal 42 = .ok (.invokestatic 72, 3) := by decide +kernel
theorem dX4_readReal_45 : decode cX4_readReal 45 = .ok (.goto 4, 3) := by decide +kernel
theorem dX4_readReal_48 : decode cX4_readReal 48 = .ok (.iload_n 3, 1) := by decide +kernel
theorem dX4_readReal_49 : decode cX4_readReal 49 = .ok (.istore 5, 2) := by decide +kernel
theorem dX4_readReal_51 : decode cX4_readReal 51 = .ok (.iload 4, 2) := by decide +kernel
theorem dX4_readReal_53 : decode cX4_readReal 53 = .ok (.ifCond .eq 12, 3) := by decide +kernel
theorem dX4_readReal_56 : decode cX4_readReal 56 = .ok (.iload 5, 2) := by decide +kernel
theorem dX4_readReal_58 : decode cX4_readReal 58 = .ok (.iload_n 3, 1) := by decide +kernel
theorem dX4_readReal_59 : decode cX4_readReal 59 = .ok (.isub, 1) := by decide +kernel
theorem dX4_readReal_60 : decode cX4_readReal 60 = .ok (.iconst 1, 1) := by decide +kernel
theorem dX4_readReal_61 : decode cX4_readReal 61 = .ok (.isub, 1) := by decide +kernel
theorem dX4_readReal_62 : decode cX4_readReal 62 = .ok (.goto 4, 3) := by decide +kernel
theorem dX4_readReal_65 : decode cX4_readReal 65 = .ok (.iconst 0, 1) := by decide +kernel
theorem dX4_readReal_66 : decode cX4_readReal 66 = .ok (.istore 6, 2) := by decide +kernel
theorem dX4_readReal_68 : decode cX4_readReal 68 = .ok (.iload_n 3, 1) := by decide +kernel
theorem dX4_readReal_69 : decode cX4_readReal 69 = .ok (.iload_n 2, 1) := by decide +kernel
theorem dX4_readReal_70 : decode cX4_readReal 70 = .ok (.isub, 1) := by decide +kernel
theorem dX4_readReal_71 : decode cX4_readReal 71 = .ok (.iload 6, 2) := by decide +kernel
theorem dX4_readReal_73 : decode cX4_readReal 73 = .ok (.iadd, 1) := by decide +kernel
theorem dX4_readReal_74 : decode cX4_readReal 74 = .ok (.ifCond .le 7, 3) := by decide +kernel
theorem dX4_readReal_77 : decode cX4_readReal 77 = .ok (.iconst 1, 1) := by decide +kernel
theorem dX4_readReal_78 : decode cX4_readReal 78 = .ok (.goto 4, 3) := by decide +kernel
theorem dX4_readReal_81 : decode cX4_readReal 81 = .ok (.iconst 0, 1) := by decide +kernel
theorem dX4_readReal_82 : decode cX4_readReal 82 = .ok (.istore 7, 2) := by decide +kernel
theorem dX4_readReal_84 : decode cX4_readReal 84 = .ok (.iload 7, 2) := by decide +kernel
theorem dX4_readReal_86 : decode cX4_readReal 86 = .ok (.ifCond .eq 21, 3) := by decide +kernel
theorem dX4_readReal_89 : decode cX4_readReal 89 = .ok (.iload 5, 2) := by decide +kernel
theorem dX4_readReal_91 : decode cX4_readReal 91 = .ok (.aload_n 1, 1) := by decide +kernel
theorem dX4_readReal_92 : decode cX4_readReal 92 = .ok (.getfield 69, 3) := by decide +kernel
theorem dX4_readReal_95 : decode cX4_readReal 95 = .ok (.if_icmp .ge 14, 3) := by decide +kernel
theorem dX4_readReal_98 : decode cX4_readReal 98 = .ok (.aload_n 1, 1) := by decide +kernel
theorem dX4_readReal_99 : decode cX4_readReal 99 = .ok (.iload 5, 2) := by decide +kernel
theorem dX4_readReal_101 : decode cX4_readReal 101 = .ok (.invokestatic 92, 3) := by decide +kernel
theorem dX4_readReal_104 : decode cX4_readReal 104 = .ok (.ifCond .ne 5, 3) := by decide +kernel
theorem dX4_readReal_107 : decode cX4_readReal 107 = .ok (.iconst 3, 1) := by decide +kernel
theorem dX4_readReal_108 : decode cX4_readReal 108 = .ok (.ireturn, 1) := by decide +kernel
theorem dX4_readReal_109 : decode cX4_readReal 109 = .ok (.iload 5, 2) := by decide +kernel
theorem dX4_readReal_111 : decode cX4_readReal 111 = .ok (.aload_n 1, 1) := by decide +kernel
theorem dX4_readReal_112 : decode cX4_readReal 112 = .ok (.getfield 69, 3) := by decide +kernel
theorem dX4_readReal_115 : decode cX4_readReal 115 = .ok (.if_icmp .ge 12, 3) := by decide +kernel
theorem dX4_readReal_118 : decode cX4_readReal 118 = .ok (.aload_n 1, 1) := by decide +kernel
theorem dX4_readReal_119 : decode cX4_readReal 119 = .ok (.iload 5, 2) := by decide +kernel
theorem dX4_readReal_121 : decode cX4_readReal 121 = .ok (.invokestatic 96, 3) := by decide +kernel
theorem dX4_readReal_124 : decode cX4_readReal 124 = .ok (.goto 4, 3) := by decide +kernel
theorem dX4_readReal_127 : decode cX4_readReal 127 = .ok (.iconst 0, 1) := by decide +kernel
theorem dX4_readReal_128 : decode cX4_readReal 128 = .ok (.istore 8, 2) := by decide +kernel
theorem dX4_readReal_130 : decode cX4_readReal 130 = .ok (.aload_n 1, 1) := by decide +kernel
theorem dX4_readReal_131 : decode cX4_readReal 131 = .ok (.iload_n 2, 1) := by decide +kernel
theorem dX4_readReal_132 : decode cX4_readReal 132 = .ok (.iload 5, 2) := by decide +kernel
theorem dX4_readReal_134 : decode cX4_readReal 134 = .ok (.invokestatic 99, 3) := by decide +kernel
theorem dX4_readReal_137 : decode cX4_readReal 137 = .ok (.ldc2_w 103, 3) := by decide +kernel
theorem dX4_readReal_140 : decode cX4_readReal 140 = .ok (.iload 8, 2) := by decide +kernel
theorem dX4_readReal_142 : decode cX4_readReal 142 = .ok (.iload 6, 2) := by decide +kernel
theorem dX4_readReal_144 : decode cX4_readReal 144 = .ok (.isub, 1) := by decide +kernel
theorem dX4_readReal_145 : decode cX4_readReal 145 = .ok (.invokestatic 105, 3) := by decide +kernel
theorem dX4_readReal_148 : decode cX4_readReal 148 = .ok (.dstore 9, 2) := by decide +kernel
theorem dX4_readReal_150 : decode cX4_readReal 150 = .ok (.dload 9, 2) := by decide +kernel
theorem dX4_readReal_152 : decode cX4_readReal 152 = .ok (.ldc2_w 109, 3) := by decide +kernel
theorem dX4_readReal_155 : decode cX4_readReal 155 = .ok (.dcmp .l, 1) := by decide +kernel
theorem dX4_readReal_156 : decode cX4_readReal 156 = .ok (.ifCond .le 6, 3) := by decide +kernel
theorem dX4_readReal_159 : decode cX4_readReal 159 = .ok (.bipush (-6), 2) := by decide +kernel
theorem dX4_readReal_161 : decode cX4_readReal 161 = .ok (.ireturn, 1) := by decide +kernel
theorem dX4_readReal_162 : decode cX4_readReal 162 = .ok (.aload_n 1, 1) := by decide +kernel
theorem dX4_readReal_163 : decode cX4_readReal 163 = .ok (.aload_n 1, 1) := by decide +kernel
theorem dX4_readReal_164 : decode cX4_readReal 164 = .ok (.iconst 0, 1) := by decide +kernel
theorem dX4_readReal_165 : decode cX4_readReal 165 = .ok (.invokevirtual 79, 3) := by decide +kernel
theorem dX4_readReal_168 : decode cX4_readReal 168 = .ok (.bipush 45, 2) := by decide +kernel
theorem dX4_readReal_170 : decode cX4_readReal 170 = .ok (.if_icmp .ne 10, 3) := by decide +kernel
theorem dX4_readReal_173 : decode cX4_readReal 173 = .ok (.dconst 0, 1) := by decide +kernel
theorem dX4_readReal_174 : decode cX4_readReal 174 = .ok (.dload 9, 2) := by decide +kernel
theorem dX4_readReal_176 : decode cX4_readReal 176 = .ok (.dsub, 1) := by decide +kernel
theorem dX4_readReal_177 : decode cX4_readReal 177 = .ok (.goto 5, 3) := by decide +kernel
theorem dX4_readReal_180 : decode cX4_readReal 180 = .ok (.dload 9, 2) := by decide +kernel
theorem dX4_readReal_182 : decode cX4_readReal 182 = .ok (.invokevirtual 111, 3) := by decide +kernel
theorem dX4_readReal_185 : decode cX4_readReal 185 = .ok (.ireturn, 1) := by decide +kernel
theorem dX4_isExponent_0 : decode cX4_isExponent 0 = .ok (.aload_n 0, 1) := by decide +kernel
theorem dX4_isExponent_1 : decode cX4_isExponent 1 = .ok (.iload_n 1, 1) := by decide +kernel
theorem dX4_isExponent_2 : decode cX4_isExponent 2 = .ok (.invokevirtual 79, 3) := by decide +kernel
theorem dX4_isExponent_5 : decode cX4_isExponent 5 = .ok (.istore_n 2, 1) := by decide +kernel
theorem dX4_isExponent_6 : decode cX4_isExponent 6 = .ok (.aload_n 0, 1) := by decide +kernel
theorem dX4_isExponent_7 : decode cX4_isExponent 7 = .ok (.iload_n 1, 1) := by decide +kernel
theorem dX4_isExponent_8 : decode cX4_isExponent 8 = .ok (.iconst 1, 1) := by decide +kernel
theorem dX4_isExponent_9 : decode cX4_isExponent 9 = .ok (.iadd, 1) := by decide +kernel
theorem dX4_isExponent_10 : decode cX4_isExponent 10 = .ok (.invokestatic 65, 3) := by decide +kernel
theorem dX4_isExponent_13 : decode cX4_isExponent 13 = .ok (.istore_n 3, 1) := by decide +kernel
theorem dX4_isExponent_14 : decode cX4_isExponent 14 = .ok (.aload_n 0, 1) := by decide +kernel
theorem dX4_isExponent_15 : decode cX4_isExponent 15 = .ok (.getfield 69, 3) := by decide +kernel
theorem dX4_isExponent_18 : decode cX4_isExponent 18 = .ok (.iload_n 3, 1) := by decide +kernel
theorem dX4_isExponent_19 : decode cX4_isExponent 19 = .ok (.isub, 1) := by decide +kernel
theorem dX4_isExponent_20 : decode cX4_isExponent 20 = .ok (.istore 4, 2) := by decide +kernel
theorem dX4_isExponent_22 : decode cX4_isExponent 22 = .ok (.iload_n 2, 1) := by decide +kernel
theorem dX4_isExponent_23 : decode cX4_isExponent 23 = .ok (.bipush 101, 2) := by decide +kernel
theorem dX4_isExponent_25 : decode cX4_isExponent 25 = .ok (.if_icmp .eq 9, 3) := by decide +kernel
theorem dX4_isExponent_28 : decode cX4_isExponent 28 = .ok (.iload_n 2, 1) := by decide +kernel
theorem dX4_isExponent_29 : decode cX4_isExponent 29 = .ok (.bipush 69, 2) := by decide +kernel
theorem dX4_isExponent_31 : decode cX4_isExponent 31 = .ok (.if_icmp .ne 33, 3) := by decide +kernel
theorem dX4_isExponent_34 : decode cX4_isExponent 34 = .ok (.iload 4, 2) := by decide +kernel
theorem dX4_isExponent_36 : decode cX4_isExponent 36 = .ok (.iconst 1, 1) := by decide +kernel
theorem dX4_isExponent_37 : decode cX4_isExponent 37 = .ok (.if_icmp .lt 27, 3) := by decide +kernel
theorem dX4_isExponent_40 : decode cX4_isExponent 40 = .ok (.iload 4, 2) := by decide +kernel
theorem dX4_isExponent_42 : decode cX4_isExponent 42 = .ok (.iconst 3, 1) := by decide +kernel
theorem dX4_isExponent_43 : decode cX4_isExponent 43 = .ok (.if_icmp .gt 21, 3) := by decide +kernel
theorem dX4_isExponent_46 : decode cX4_isExponent 46 = .ok (.aload_n 0, 1) := by decide +kernel
theorem dX4_isExponent_47 : decode cX4_isExponent 47 = .ok (.iload_n 3, 1) := by decide +kernel
theorem dX4_isExponent_48 : decode cX4_isExponent 48 = .ok (.bipush 10, 2) := by decide +kernel
theorem dX4_isExponent_50 : decode cX4_isExponent 50 = .ok (.invokestatic 72, 3) := by decide +kernel
theorem dX4_isExponent_53 : decode cX4_isExponent 53 = .ok (.aload_n 0, 1) := by decide +kernel
theorem dX4_isExponent_54 : decode cX4_isExponent 54 = .ok (.getfield 69, 3) := by decide +kernel
theorem dX4_isExponent_57 : decode cX4_isExponent 57 = .ok (.if_icmp .ne 7, 3) := by decide +kernel
theorem dX4_isExponent_60 : decode cX4_isExponent 60 = .ok (.iconst 1, 1) := by decide +kernel
theorem dX4_isExponent_61 : decode cX4_isExponent 61 = .ok (.goto 4, 3) := by decide +kernel
theorem dX4_isExponent_64 : decode cX4_isExponent 64 = .ok (.iconst 0, 1) := by decide +kernel
theorem dX4_isExponent_65 : decode cX4_isExponent 65 = .ok (.ireturn, 1) := by decide +kernel
theorem dX4_exponentAt_0 : decode cX4_exponentAt 0 = .ok (.aload_n 0, 1) := by decide +kernel
theorem dX4_exponentAt_1 : decode cX4_exponentAt 1 = .ok (.aload_n 0, 1) := by decide +kernel
theorem dX4_exponentAt_2 : decode cX4_exponentAt 2 = .ok (.iload_n 1, 1) := by decide +kernel
theorem dX4_exponentAt_3 : decode cX4_exponentAt 3 = .ok (.iconst 1, 1) := by decide +kernel
theorem dX4_exponentAt_4 : decode cX4_exponentAt 4 = .ok (.iadd, 1) := by decide +kernel
theorem dX4_exponentAt_5 : decode cX4_exponentAt 5 = .ok (.invokestatic 65, 3) := by decide +kernel
theorem dX4_exponentAt_8 : decode cX4_exponentAt 8 = .ok (.aload_n 0, 1) := by decide +kernel
theorem dX4_exponentAt_9 : decode cX4_exponentAt 9 = .ok (.getfield 69, 3) := by decide +kernel
theorem dX4_exponentAt_12 : decode cX4_exponentAt 12 = .ok (.bipush 10, 2) := by decide +kernel
theorem dX4_exponentAt_14 : decode cX4_exponentAt 14 = .ok (.invokestatic 75, 3) := by decide +kernel
theorem dX4_exponentAt_17 : decode cX4_exponentAt 17 = .ok (.l2i, 1) := by decide +kernel
theorem dX4_exponentAt_18 : decode cX4_exponentAt 18 = .ok (.istore_n 2, 1) := by decide +kernel
theorem dX4_exponentAt_19 : decode cX4_exponentAt 19 = .ok (.aload_n 0, 1) := by decide +kernel
theorem dX4_exponentAt_20 : decode cX4_exponentAt 20 = .ok (.iload_n 1, 1) := by decide +kernel
theorem dX4_exponentAt_21 : decode cX4_exponentAt 21 = .ok (.iconst 1, 1) := by decide +kernel
theorem dX4_exponentAt_22 : decode cX4_exponentAt 22 = .ok (.iadd, 1) := by decide +kernel
theorem dX4_exponentAt_23 : decode cX4_exponentAt 23 = .ok (.invokevirtual 79, 3) := by decide +kernel
theorem dX4_exponentAt_26 : decode cX4_exponentAt 26 = .ok (.bipush 45, 2) := by decide +kernel
theorem dX4_exponentAt_28 : decode cX4_exponentAt 28 = .ok (.if_icmp .ne 8, 3) := by decide +kernel
theorem dX4_exponentAt_31 : decode cX4_exponentAt 31 = .ok (.iload_n 2, 1) := by decide +kernel
theorem dX4_exponentAt_32 : decode cX4_exponentAt 32 = .ok (.ineg, 1) := by decide +kernel
theorem dX4_exponentAt_33 : decode cX4_exponentAt 33 = .ok (.goto 4, 3) := by decide +kernel
theorem dX4_exponentAt_36 : decode cX4_exponentAt 36 = .ok (.iload_n 2, 1) := by decide +kernel
theorem dX4_exponentAt_37 : decode cX4_exponentAt 37 = .ok (.ireturn, 1) := by decide +kernel
theorem dX4_digitsAsReal_0 : decode cX4_digitsAsReal 0 = .ok (.dconst 0, 1) := by decide +kernel
theorem dX4_digitsAsReal_1 : decode cX4_digitsAsReal 1 = .ok (.dstore_n 3, 1) := by decide +kernel
theorem dX4_digitsAsReal_2 : decode cX4_digitsAsReal 2 = .ok (.iload_n 1, 1) := by decide +kernel
theorem dX4_digitsAsReal_3 : decode cX4_digitsAsReal 3 = .ok (.istore 5, 2) := by decide +kernel
theorem dX4_digitsAsReal_5 : decode cX4_digitsAsReal 5 = .ok (.iload 5, 2) := by decide +kernel
theorem dX4_digitsAsReal_7 : decode cX4_digitsAsReal 7 = .ok (.iload_n 2, 1) := by decide +kernel
theorem dX4_digitsAsReal_8 : decode cX4_digitsAsReal 8 = .ok (.if_icmp .ge 37, 3) := by decide +kernel
theorem dX4_digitsAsReal_11 : decode cX4_digitsAsReal 11 = .ok (.aload_n 0, 1) := by decide +kernel
theorem dX4_digitsAsReal_12 : decode cX4_digitsAsReal 12 = .ok (.iload 5, 2) := by decide +kernel
theorem dX4_digitsAsReal_14 : decode cX4_digitsAsReal 14 = .ok (.invokevirtual 79, 3) := by decide +kernel
theorem dX4_digitsAsReal_17 : decode cX4_digitsAsReal 17 = .ok (.bipush 46, 2) := by decide +kernel
theorem dX4_digitsAsReal_19 : decode cX4_digitsAsReal 19 = .ok (.if_icmp .eq 20, 3) := by decide +kernel
theorem dX4_digitsAsReal_22 : decode cX4_digitsAsReal 22 = .ok (.dload_n 3, 1) := by decide +kernel
theorem dX4_digitsAsReal_23 : decode cX4_digitsAsReal 23 = .ok (.ldc2_w 103, 3) := by decide +kernel
theorem dX4_digitsAsReal_26 : decode cX4_digitsAsReal 26 = .ok (.dmul, 1) := by decide +kernel
theorem dX4_digitsAsReal_27 : decode cX4_digitsAsReal 27 = .ok (.aload_n 0, 1) := by decide +kernel
theorem dX4_digitsAsReal_28 : decode cX4_digitsAsReal 28 = .ok (.iload 5, 2) := by decide +kernel
theorem dX4_digitsAsReal_30 : decode cX4_digitsAsReal 30 = .ok (.invokevirtual 79, 3) := by decide +kernel
theorem dX4_digitsAsReal_33 : decode cX4_digitsAsReal 33 = .ok (.invokestatic 115, 3) := by decide +kernel
theorem dX4_digitsAsReal_36 : decode cX4_digitsAsReal 36 = .ok (.i2d, 1) := by decide +kernel
theorem dX4_digitsAsReal_37 : decode cX4_digitsAsReal 37 = .ok (.dadd, 1) := by decide +kernel
theorem dX4_digitsAsReal_38 : decode cX4_digitsAsReal 38 = .ok (.dstore_n 3, 1) := by decide +kernel
theorem dX4_digitsAsReal_39 : decode cX4_digitsAsReal 39 = .ok (.iinc 5 1, 3) := by decide +kernel
theorem dX4_digitsAsReal_42 : decode cX4_digitsAsReal 42 = .ok (.goto (-37), 3) := by decide +kernel
theorem dX4_digitsAsReal_45 : decode cX4_digitsAsReal 45 = .ok (.dload_n 3, 1) := by decide +kernel
theorem dX4_digitsAsReal_46 : decode cX4_digitsAsReal 46 = .ok (.dreturn, 1) := by decide +kernel
theorem dX4_behindSign_0 : decode cX4_behindSign 0 = .ok (.aload_n 0, 1) := by decide +kernel
theorem dX4_behindSign_1 : decode cX4_behindSign 1 = .ok (.iload_n 1, 1) := by decide +kernel
theorem dX4_behindSign_2 : decode cX4_behindSign 2 = .ok (.invokevirtual 79, 3) := by decide +kernel
theorem dX4_behindSign_5 : decode cX4_behindSign 5 = .ok (.istore_n 2, 1) := by decide +kernel
theorem dX4_behindSign_6 : decode cX4_behindSign 6 = .ok (.iload_n 2, 1) := by decide +kernel
theorem dX4_behindSign_7 : decode cX4_behindSign 7 = .ok (.bipush 43, 2) := by decide +kernel
theorem dX4_behindSign_9 : decode cX4_behindSign 9 = .ok (.if_icmp .eq 9, 3) := by decide +kernel
theorem dX4_behindSign_12 : decode cX4_behindSign 12 = .ok (.iload_n 2, 1) := by decide +kernel
theorem dX4_behindSign_13 : decode cX4_behindSign 13 = .ok (.bipush 45, 2) := by decide +kernel
theorem dX4_behindSign_15 : decode cX4_behindSign 15 = .ok (.if_icmp .ne 9, 3) := by decide +kernel
theorem dX4_behindSign_18 : decode cX4_behindSign 18 = .ok (.iload_n 1, 1) := by decide +kernel
theorem dX4_behindSign_19 : decode cX4_behindSign 19 = .ok (.iconst 1, 1) := by decide +kernel
theorem dX4_behindSign_20 : decode cX4_behindSign 20 = .ok (.iadd, 1) := by decide +kernel
theorem dX4_behindSign_21 : decode cX4_behindSign 21 = .ok (.goto 4, 3) := by decide +kernel
theorem dX4_behindSign_24 : decode cX4_behindSign 24 = .ok (.iload_n 1, 1) := by decide +kernel
theorem dX4_behindSign_25 : decode cX4_behindSign 25 = .ok (.ireturn, 1) := by decide +kernel
theorem dX4_digitsEnd_0 : decode cX4_digitsEnd 0 = .ok (.iload_n 1, 1) := by decide +kernel
theorem dX4_digitsEnd_1 : decode cX4_digitsEnd 1 = .ok (.istore_n 3, 1) := by decide +kernel
theorem dX4_digitsEnd_2 : decode cX4_digitsEnd 2 = .ok (.iload_n 3, 1) := by decide +kernel
theorem dX4_digitsEnd_3 : decode cX4_digitsEnd 3 = .ok (.aload_n 0, 1) := by decide +kernel
theorem dX4_digitsEnd_4 : decode cX4_digitsEnd 4 = .ok (.getfield 69, 3) := by decide +kernel
theorem dX4_digitsEnd_7 : decode cX4_digitsEnd 7 = .ok (.if_icmp .ge 23, 3) := by decide +kernel
theorem dX4_digitsEnd_10 : decode cX4_digitsEnd 10 = .ok (.aload_n 0, 1) := by decide +kernel
theorem dX4_digitsEnd_11 : decode cX4_digitsEnd 11 = .ok (.iload_n 3, 1) := by decide +kernel
theorem dX4_digitsEnd_12 : decode cX4_digitsEnd 12 = .ok (.invokevirtual 79, 3) := by decide +kernel
theorem dX4_digitsEnd_15 : decode cX4_digitsEnd 15 = .ok (.invokestatic 115, 3) := by decide +kernel
theorem dX4_digitsEnd_18 : decode cX4_digitsEnd 18 = .ok (.iload_n 2, 1) := by decide +kernel
theorem dX4_digitsEnd_19 : decode cX4_digitsEnd 19 = .ok (.if_icmp .lt 5, 3) := by decide +kernel
theorem dX4_digitsEnd_22 : decode cX4_digitsEnd 22 = .ok (.iload_n 3, 1) := by decide +kernel
theorem dX4_digitsEnd_23 : decode cX4_digitsEnd 23 = .ok (.ireturn, 1) := by decide +kernel
theorem dX4_digitsEnd_24 : decode cX4_digitsEnd 24 = .ok (.iinc 3 1, 3) := by decide +kernel
theorem dX4_digitsEnd_27 : decode cX4_digitsEnd 27 = .ok (.goto (-25), 3) := by decide +kernel
theorem dX4_digitsEnd_30 : decode cX4_digitsEnd 30 = .ok (.aload_n 0, 1) := by decide +kernel
theorem dX4_digitsEnd_31 : decode cX4_digitsEnd 31 = .ok (.getfield 69, 3) := by decide +kernel
theorem dX4_digitsEnd_34 : decode cX4_digitsEnd 34 = .ok (.ireturn, 1) := by decide +kernel
theorem dX4_valueOf_0 : decode cX4_valueOf 0 = .ok (.lconst 0, 1) := by decide +kernel
theorem dX4_valueOf_1 : decode cX4_valueOf 1 = .ok (.lstore 4, 2) := by decide +kernel
theorem dX4_valueOf_3 : decode cX4_valueOf 3 = .ok (.iload_n 1, 1) := by decide +kernel
theorem dX4_valueOf_4 : decode cX4_valueOf 4 = .ok (.istore 6, 2) := by decide +kernel
theorem dX4_valueOf_6 : decode cX4_valueOf 6 = .ok (.iload 6, 2) := by decide +kernel
theorem dX4_valueOf_8 : decode cX4_valueOf 8 = .ok (.iload_n 2, 1) := by decide +kernel
theorem dX4_valueOf_9 : decode cX4_valueOf 9 = .ok (.if_icmp .ge 33, 3) := by decide +kernel
theorem dX4_valueOf_12 : decode cX4_valueOf 12 = .ok (.lload 4, 2) := by decide +kernel
theorem dX4_valueOf_14 : decode cX4_valueOf 14 = .ok (.iload_n 3, 1) := by decide +kernel
theorem dX4_valueOf_15 : decode cX4_valueOf 15 = .ok (.i2l, 1) := by decide +kernel
theorem dX4_valueOf_16 : decode cX4_valueOf 16 = .ok (.lmul, 1) := by decide +kernel
theorem dX4_valueOf_17 : decode cX4_valueOf 17 = .ok (.aload_n 0, 1) := by decide +kernel
theorem dX4_valueOf_18 : decode cX4_valueOf 18 = .ok (.iload 6, 2) := by decide +kernel
theorem dX4_valueOf_20 : decode cX4_valueOf 20 = .ok (.invokevirtual 79, 3) := by decide +kernel
theorem dX4_valueOf_23 : decode cX4_valueOf 23 = .ok (.invokestatic 115, 3) := by decide +kernel
theorem dX4_valueOf_26 : decode cX4_valueOf 26 = .ok (.i2l, 1) := by decide +kernel
theorem dX4_valueOf_27 : decode cX4_valueOf 27 = .ok (.ladd, 1) := by decide +kernel
theorem dX4_valueOf_28 : decode cX4_valueOf 28 = .ok (.ldc2_w 90, 3) := by decide +kernel
theorem dX4_valueOf_31 : decode cX4_valueOf 31 = .ok (.invokestatic 118, 3) := by decide +kernel
theorem dX4_valueOf_34 : decode cX4_valueOf 34 = .ok (.lstore 4, 2) := by decide +kernel
theorem dX4_valueOf_36 : decode cX4_valueOf 36 = .ok (.iinc 6 1, 3) := by decide +kernel
theorem dX4_valueOf_39 : decode cX4_valueOf 39 = .ok (.goto (-33), 3) := by decide +kernel
theorem dX4_valueOf_42 : decode cX4_valueOf 42 = .ok (.lload 4, 2) := by decide +kernel
theorem dX4_valueOf_44 : decode cX4_valueOf 44 = .ok (.lreturn, 1) := by decide +kernel
end
section
theorem dX5_init_0 : decode cX5_init 0 = .ok (.aload_n 0, 1) := by decide +kernel
theorem dX5_init_1 : decode cX5_init 1 = .ok (.invokespecial 1, 3) := by decide +kernel
theorem dX5_init_4 : decode cX5_init 4 = .ok (.aload_n 0, 1) := by decide +kernel
theorem dX5_init_5 : decode cX5_init 5 = .ok (.new 7, 3) := by decide +kernel
theorem dX5_init_8 : decode cX5_init 8 = .ok (.dup, 1) := by decide +kernel
theorem dX5_init_9 : decode cX5_init 9 = .ok (.invokespecial 9, 3) := by decide +kernel
theorem dX5_init_12 : decode cX5_init 12 = .ok (.putfield 10, 3) := by decide +kernel
theorem dX5_init_15 : decode cX5_init 15 = .ok (.aload_n 0, 1) := by decide +kernel
theorem dX5_init_16 : decode cX5_init 16 = .ok (.new 16, 3) := by decide +kernel
theorem dX5_init_19 : decode cX5_init 19 = .ok (.dup, 1) := by decide +kernel
theorem dX5_init_20 : decode cX5_init 20 = .ok (.aload_n 0, 1) := by decide +kernel
theorem dX5_init_21 : decode cX5_init 21 = .ok (.getfield 10, 3) := by decide +kernel
theorem dX5_init_24 : decode cX5_init 24 = .ok (.invokespecial 18, 3) := by decide +kernel
theorem dX5_init_27 : decode cX5_init 27 = .ok (.putfield 21, 3) := by decide +kernel
theorem dX5_init_30 : decode cX5_init 30 = .ok (.aload_n 0, 1) := by decide +kernel
theorem dX5_init_31 : decode cX5_init 31 = .ok (.new 25, 3) := by decide +kernel
theorem dX5_init_34 : decode cX5_init 34 = .ok (.dup, 1) := by decide +kernel
theorem dX5_init_35 : decode cX5_init 35 = .ok (.aload_n 0, 1) := by decide +kernel
theorem dX5_init_36 : decode cX5_init 36 = .ok (.getfield 10, 3) := by decide +kernel
theorem dX5_init_39 : decode cX5_init 39 = .ok (.invokespecial 27, 3) := by decide +kernel
theorem dX5_init_42 : decode cX5_init 42 = .ok (.putfield 28, 3) := by decide +kernel
theorem dX5_init_45 : decode cX5_init 45 = .ok (.aload_n 0, 1) := by decide +kernel
theorem dX5_init_46 : decode cX5_init 46 = .ok (.new 32, 3) := by decide +kernel
theorem dX5_init_49 : decode cX5_init 49 = .ok (.dup, 1) := by decide +kernel
theorem dX5_init_50 : decode cX5_init 50 = .ok (.aload_n 0, 1) := by decide +kernel
theorem dX5_init_51 : decode cX5_init 51 = .ok (.getfield 10, 3) := by decide +kernel
theorem dX5_init_54 : decode cX5_init 54 = .ok (.invokespecial 34, 3) := by decide +kernel
theorem dX5_init_57 : decode cX5_init 57 = .ok (.putfield 35, 3) := by decide +kernel
theorem dX5_init_60 : decode cX5_init 60 = .ok (.aload_n 0, 1) := by decide +kernel
theorem dX5_init_61 : decode cX5_init 61 = .ok (.bipush 20, 2) := by decide +kernel
theorem dX5_init_63 : decode cX5_init 63 = .ok (.newarray .int, 2) := by decide +kernel
theorem dX5_init_65 : decode cX5_init 65 = .ok (.putfield 39, 3) := by decide +kernel
theorem dX5_init_68 : decode cX5_init 68 = .ok (.aload_n 0, 1) := by decide +kernel
theorem dX5_init_69 : decode cX5_init 69 = .ok (.new 43, 3) := by decide +kernel
theorem dX5_init_72 : decode cX5_init 72 = .ok (.dup, 1) := by decide +kernel
theorem dX5_init_73 : decode cX5_init 73 = .ok (.invokespecial 45, 3) := by decide +kernel
theorem dX5_init_76 : decode cX5_init 76 = .ok (.putfield 46, 3) := by decide +kernel
theorem dX5_init_79 : decode cX5_init 79 = .ok (.aload_n 0, 1) := by decide +kernel
theorem dX5_init_80 : decode cX5_init 80 = .ok (.new 43, 3) := by decide +kernel
theorem dX5_init_83 : decode cX5_init 83 = .ok (.dup, 1) := by decide +kernel
theorem dX5_init_84 : decode cX5_init 84 = .ok (.invokespecial 45, 3) := by decide +kernel
theorem dX5_init_87 : decode cX5_init 87 = .ok (.putfield 50, 3) := by decide +kernel
theorem dX5_init_90 : decode cX5_init 90 = .ok (.return_, 1) := by decide +kernel
theorem dX5_add_0 : decode cX5_add 0 = .ok (.aload_n 0, 1) := by decide +kernel
theorem dX5_add_1 : decode cX5_add 1 = .ok (.getfield 10, 3) := by decide +kernel
theorem dX5_add_4 : decode cX5_add 4 = .ok (.getfield 53, 3) := by decide +kernel
theorem dX5_add_7 : decode cX5_add 7 = .ok (.ifCond .eq 13, 3) := by decide +kernel
theorem dX5_add_10 : decode cX5_add 10 = .ok (.new 57, 3) := by decide +kernel
theorem dX5_add_13 : decode cX5_add 13 = .ok (.dup, 1) := by decide +kernel
theorem dX5_add_14 : decode cX5_add 14 = .ok (.ldc 59, 2) := by decide +kernel
theorem dX5_add_16 : decode cX5_add 16 = .ok (.invokespecial 61, 3) := by decide +kernel
theorem dX5_add_19 : decode cX5_add 19 = .ok (.athrow, 1) := by decide +kernel
theorem dX5_add_20 : decode cX5_add 20 = .ok (.aload_n 0, 1) := by decide +kernel
theorem dX5_add_21 : decode cX5_add 21 = .ok (.getfield 10, 3) := by decide +kernel
theorem dX5_add_24 : decode cX5_add 24 = .ok (.iload_n 1, 1) := by decide +kernel
theorem dX5_add_25 : decode cX5_add 25 = .ok (.invokevirtual 64, 3) := by decide +kernel
theorem dX5_add_28 : decode cX5_add 28 = .ok (.ifCond .ne 13, 3) := by decide +kernel
theorem dX5_add_31 : decode cX5_add 31 = .ok (.new 68, 3) := by decide +kernel
theorem dX5_add_34 : decode cX5_add 34 = .ok (.dup, 1) := by decide +kernel
theorem dX5_add_35 : decode cX5_add 35 = .ok (.ldc 70, 2) := by decide +kernel
theorem dX5_add_37 : decode cX5_add 37 = .ok (.invokespecial 72, 3) := by decide +kernel
theorem dX5_add_40 : decode cX5_add 40 = .ok (.athrow, 1) := by decide +kernel
theorem dX5_add_41 : decode cX5_add 41 = .ok (.aload_n 0, 1) := by decide +kernel
theorem dX5_add_42 : decode cX5_add 42 = .ok (.getfield 10, 3) := by decide +kernel
theorem dX5_add_45 : decode cX5_add 45 = .ok (.getfield 73, 3) := by decide +kernel
theorem dX5_add_48 : decode cX5_add 48 = .ok (.ireturn, 1) := by decide +kernel
theorem dX5_end_0 : decode cX5_end 0 = .ok (.aload_n 0, 1) := by decide +kernel
theorem dX5_end_1 : decode cX5_end 1 = .ok (.getfield 10, 3) := by decide +kernel
theorem dX5_end_4 : decode cX5_end 4 = .ok (.getfield 53, 3) := by decide +kernel
theorem dX5_end_7 : decode cX5_end 7 = .ok (.ifCond .eq 5, 3) := by decide +kernel
theorem dX5_end_10 : decode cX5_end 10 = .ok (.iconst (-1), 1) := by decide +kernel
theorem dX5_end_11 : decode cX5_end 11 = .ok (.ireturn, 1) := by decide +kernel
theorem dX5_end_12 : decode cX5_end 12 = .ok (.aload_n 0, 1) := by decide +kernel
theorem dX5_end_13 : decode cX5_end 13 = .ok (.getfield 10, 3) := by decide +kernel
theorem dX5_end_16 : decode cX5_end 16 = .ok (.iconst 1, 1) := by decide +kernel
theorem dX5_end_17 : decode cX5_end 17 = .ok (.putfield 53, 3) := by decide +kernel
theorem dX5_end_20 : decode cX5_end 20 = .ok (.aload_n 0, 1) := by decide +kernel
theorem dX5_end_21 : decode cX5_end 21 = .ok (.getfield 10, 3) := by decide +kernel
theorem dX5_end_24 : decode cX5_end 24 = .ok (.getfield 73, 3) := by decide +kernel
theorem dX5_end_27 : decode cX5_end 27 = .ok (.aload_n 0, 1) := by decide +kernel
theorem dX5_end_28 : decode cX5_end 28 = .ok (.getfield 10, 3) := by decide +kernel
theorem dX5_end_31 : decode cX5_end 31 = .ok (.getfield 77, 3) := by decide +kernel
theorem dX5_end_34 : decode cX5_end 34 = .ok (.isub, 1) := by decide +kernel
theorem dX5_end_35 : decode cX5_end 35 = .ok (.ireturn, 1) := by decide +kernel
theorem dX5_next_0 : decode cX5_next 0 = .ok (.aload_n 0, 1) := by decide +kernel
theorem dX5_next_1 : decode cX5_next 1 = .ok (.getfield 10, 3) := by decide +kernel
theorem dX5_next_4 : decode cX5_next 4 = .ok (.invokevirtual 80, 3) := by decide +kernel
theorem dX5_next_7 : decode cX5_next 7 = .ok (.istore_n 1, 1) := by decide +kernel
theorem dX5_next_8 : decode cX5_next 8 = .ok (.iload_n 1, 1) := by decide +kernel
theorem dX5_next_9 : decode cX5_next 9 = .ok (.aload_n 0, 1) := by decide +kernel
theorem dX5_next_10 : decode cX5_next 10 = .ok (.getfield 10, 3) := by decide +kernel
theorem dX5_next_13 : decode cX5_next 13 = .ok (.getfield 73, 3) := by decide +kernel
theorem dX5_next_16 : decode cX5_next 16 = .ok (.if_icmp .ne 8, 3) := by decide +kernel
theorem dX5_next_19 : decode cX5_next 19 = .ok (.aload_n 0, 1) := by decide +kernel
theorem dX5_next_20 : decode cX5_next 20 = .ok (.invokevirtual 84, 3) := by decide +kernel
theorem dX5_next_23 : decode cX5_next 23 = .ok (.ireturn, 1) := by decide +kernel
theorem dX5_next_24 : decode cX5_next 24 = .ok (.aload_n 0, 1) := by decide +kernel
theorem dX5_next_25 : decode cX5_next 25 = .ok (.getfield 50, 3) := by decide +kernel
theorem dX5_next_28 : decode cX5_next 28 = .ok (.iload_n 1, 1) := by decide +kernel
theorem dX5_next_29 : decode cX5_next 29 = .ok (.invokevirtual 87, 3) := by decide +kernel
theorem dX5_next_32 : decode cX5_next 32 = .ok (.aload_n 0, 1) := by decide +kernel
theorem dX5_next_33 : decode cX5_next 33 = .ok (.aload_n 0, 1) := by decide +kernel
theorem dX5_next_34 : decode cX5_next 34 = .ok (.getfield 10, 3) := by decide +kernel
theorem dX5_next_37 : decode cX5_next 37 = .ok (.iload_n 1, 1) := by decide +kernel
theorem dX5_next_38 : decode cX5_next 38 = .ok (.invokevirtual 91, 3) := by decide +kernel
theorem dX5_next_41 : decode cX5_next 41 = .ok (.invokevirtual 95, 3) := by decide +kernel
theorem dX5_next_44 : decode cX5_next 44 = .ok (.istore_n 2, 1) := by decide +kernel
theorem dX5_next_45 : decode cX5_next 45 = .ok (.iload_n 2, 1) := by decide +kernel
theorem dX5_next_46 : decode cX5_next 46 = .ok (.ifCond .ne 5, 3) := by decide +kernel
theorem dX5_next_49 : decode cX5_next 49 = .ok (.iconst 0, 1) := by decide +kernel
theorem dX5_next_50 : decode cX5_next 50 = .ok (.ireturn, 1) := by decide +kernel
theorem dX5_next_51 : decode cX5_next 51 = .ok (.aload_n 0, 1) := by decide +kernel
theorem dX5_next_52 : decode cX5_next 52 = .ok (.getfield 10, 3) := by decide +kernel
theorem dX5_next_55 : decode cX5_next 55 = .ok (.aload_n 0, 1) := by decide +kernel
theorem dX5_next_56 : decode cX5_next 56 = .ok (.getfield 50, 3) := by decide +kernel
theorem dX5_next_59 : decode cX5_next 59 = .ok (.getfield 98, 3) := by decide +kernel
theorem dX5_next_62 : decode cX5_next 62 = .ok (.putfield 77, 3) := by decide +kernel
theorem dX5_next_65 : decode cX5_next 65 = .ok (.aload_n 0, 1) := by decide +kernel
theorem dX5_next_66 : decode cX5_next 66 = .ok (.aload_n 0, 1) := by decide +kernel
theorem dX5_next_67 : decode cX5_next 67 = .ok (.getfield 50, 3) := by decide +kernel
theorem dX5_next_70 : decode cX5_next 70 = .ok (.getfield 101, 3) := by decide +kernel
theorem dX5_next_73 : decode cX5_next 73 = .ok (.putfield 104, 3) := by decide +kernel
theorem dX5_next_76 : decode cX5_next 76 = .ok (.iload_n 2, 1) := by decide +kernel
theorem dX5_next_77 : decode cX5_next 77 = .ok (.ifCond .le 7, 3) := by decide +kernel
theorem dX5_next_80 : decode cX5_next 80 = .ok (.aload_n 0, 1) := by decide +kernel
theorem dX5_next_81 : decode cX5_next 81 = .ok (.invokevirtual 107, 3) := by decide +kernel
theorem dX5_next_84 : decode cX5_next 84 = .ok (.iload_n 2, 1) := by decide +kernel
theorem dX5_next_85 : decode cX5_next 85 = .ok (.ireturn, 1) := by decide +kernel
theorem dX5_whole_0 : decode cX5_whole 0 = .ok (.aload_n 0, 1) := by decide +kernel
theorem dX5_whole_1 : decode cX5_whole 1 = .ok (.getfield 46, 3) := by decide +kernel
theorem dX5_whole_4 : decode cX5_whole 4 = .ok (.getfield 110, 3) := by decide +kernel
theorem dX5_whole_7 : decode cX5_whole 7 = .ok (.lreturn, 1) := by decide +kernel
theorem dX5_real_0 : decode cX5_real 0 = .ok (.aload_n 0, 1) := by decide +kernel
theorem dX5_real_1 : decode cX5_real 1 = .ok (.getfield 46, 3) := by decide +kernel
theorem dX5_real_4 : decode cX5_real 4 = .ok (.getfield 114, 3) := by decide +kernel
theorem dX5_real_7 : decode cX5_real 7 = .ok (.dreturn, 1) := by decide +kernel
theorem dX5_sign_0 : decode cX5_sign 0 = .ok (.aload_n 0, 1) := by decide +kernel
theorem dX5_sign_1 : decode cX5_sign 1 = .ok (.getfield 46, 3) := by decide +kernel
theorem dX5_sign_4 : decode cX5_sign 4 = .ok (.iload_n 1, 1) := by decide +kernel
theorem dX5_sign_5 : decode cX5_sign 5 = .ok (.invokevirtual 118, 3) := by decide +kernel
theorem dX5_sign_8 : decode cX5_sign 8 = .ok (.ireturn, 1) := by decide +kernel
theorem dX5_binary_0 : decode cX5_binary 0 = .ok (.aload_n 0, 1) := by decide +kernel
theorem dX5_binary_1 : decode cX5_binary 1 = .ok (.getfield 46, 3) := by decide +kernel
theorem dX5_binary_4 : decode cX5_binary 4 = .ok (.iload_n 1, 1) := by decide +kernel
theorem dX5_binary_5 : decode cX5_binary 5 = .ok (.invokevirtual 121, 3) := by decide +kernel
theorem dX5_binary_8 : decode cX5_binary 8 = .ok (.ifCond .eq 12, 3) := by decide +kernel
theorem dX5_binary_11 : decode cX5_binary 11 = .ok (.iload_n 2, 1) := by decide +kernel
theorem dX5_binary_12 : decode cX5_binary 12 = .ok (.ifCond .lt 8, 3) := by decide +kernel
theorem dX5_binary_15 : decode cX5_binary 15 = .ok (.iload_n 2, 1) := by decide +kernel
theorem dX5_binary_16 : decode cX5_binary 16 = .ok (.iconst 1, 1) := by decide +kernel
theorem dX5_binary_17 : decode cX5_binary 17 = .ok (.if_icmp .le 13, 3) := by decide +kernel
theorem dX5_binary_20 : decode cX5_binary 20 = .ok (.new 125, 3) := by decide +kernel
theorem dX5_binary_23 : decode cX5_binary 23 = .ok (.dup, 1) := by decide +kernel
theorem dX5_binary_24 : decode cX5_binary 24 = .ok (.ldc 127, 2) := by decide +kernel
theorem dX5_binary_26 : decode cX5_binary 26 = .ok (.invokespecial 129, 3) := by decide +kernel
theorem dX5_binary_29 : decode cX5_binary 29 = .ok (.athrow, 1) := by decide +kernel
theorem dX5_binary_30 : decode cX5_binary 30 = .ok (.iload_n 2, 1) := by decide +kernel
theorem dX5_binary_31 : decode cX5_binary 31 = .ok (.ifCond .ne 19, 3) := by decide +kernel
theorem dX5_binary_34 : decode cX5_binary 34 = .ok (.aload_n 0, 1) := by decide +kernel
theorem dX5_binary_35 : decode cX5_binary 35 = .ok (.getfield 46, 3) := by decide +kernel
theorem dX5_binary_38 : decode cX5_binary 38 = .ok (.getfield 130, 3) := by decide +kernel
theorem dX5_binary_41 : decode cX5_binary 41 = .ok (.ifCond .eq 7, 3) := by decide +kernel
theorem dX5_binary_44 : decode cX5_binary 44 = .ok (.iconst 1, 1) := by decide +kernel
theorem dX5_binary_45 : decode cX5_binary 45 = .ok (.goto 4, 3) := by decide +kernel
theorem dX5_binary_48 : decode cX5_binary 48 = .ok (.iconst 0, 1) := by decide +kernel
theorem dX5_binary_49 : decode cX5_binary 49 = .ok (.ireturn, 1) := by decide +kernel
theorem dX5_binary_50 : decode cX5_binary 50 = .ok (.aload_n 0, 1) := by decide +kernel
theorem dX5_binary_51 : decode cX5_binary 51 = .ok (.getfield 46, 3) := by decide +kernel
theorem dX5_binary_54 : decode cX5_binary 54 = .ok (.getfield 133, 3) := by decide +kernel
theorem dX5_binary_57 : decode cX5_binary 57 = .ok (.iload_n 1, 1) := by decide +kernel
theorem dX5_binary_58 : decode cX5_binary 58 = .ok (.iaload, 1) := by decide +kernel
theorem dX5_binary_59 : decode cX5_binary 59 = .ok (.ireturn, 1) := by decide +kernel
theorem dX5_binaryReal_0 : decode cX5_binaryReal 0 = .ok (.aload_n 0, 1) := by decide +kernel
theorem dX5_binaryReal_1 : decode cX5_binaryReal 1 = .ok (.getfield 46, 3) := by decide +kernel
theorem dX5_binaryReal_4 : decode cX5_binaryReal 4 = .ok (.iload_n 1, 1) := by decide +kernel
theorem dX5_binaryReal_5 : decode cX5_binaryReal 5 = .ok (.invokevirtual 121, 3) := by decide +kernel
theorem dX5_binaryReal_8 : decode cX5_binaryReal 8 = .ok (.ifCond .ne 13, 3) := by decide +kernel
theorem dX5_binaryReal_11 : decode cX5_binaryReal 11 = .ok (.new 125, 3) := by decide +kernel
theorem dX5_binaryReal_14 : decode cX5_binaryReal 14 = .ok (.dup, 1) := by decide +kernel
theorem dX5_binaryReal_15 : decode cX5_binaryReal 15 = .ok (.ldc 127, 2) := by decide +kernel
theorem dX5_binaryReal_17 : decode cX5_binaryReal 17 = .ok (.invokespecial 129, 3) := by decide +kernel
theorem dX5_binaryReal_20 : decode cX5_binaryReal 20 = .ok (.athrow, 1) := by decide +kernel
theorem dX5_binaryReal_21 : decode cX5_binaryReal 21 = .ok (.aload_n 0, 1) := by decide +kernel
theorem dX5_binaryReal_22 : decode cX5_binaryReal 22 = .ok (.getfield 46, 3) := by decide +kernel
theorem dX5_binaryReal_25 : decode cX5_binaryReal 25 = .ok (.getfield 136, 3) := by decide +kernel
theorem dX5_binaryReal_28 : decode cX5_binaryReal 28 = .ok (.iload_n 1, 1) := by decide +kernel
theorem dX5_binaryReal_29 : decode cX5_binaryReal 29 = .ok (.daload, 1) := by decide +kernel
theorem dX5_binaryReal_30 : decode cX5_binaryReal 30 = .ok (.dreturn, 1) := by decide +kernel
theorem dX5_place_0 : decode cX5_place 0 = .ok (.aload_n 0, 1) := by decide +kernel
theorem dX5_place_1 : decode cX5_place 1 = .ok (.getfield 104, 3) := by decide +kernel
theorem dX5_place_4 : decode cX5_place 4 = .ok (.ireturn, 1) := by decide +kernel
theorem dX5_base_0 : decode cX5_base 0 = .ok (.aload_n 0, 1) := by decide +kernel
theorem dX5_base_1 : decode cX5_base 1 = .ok (.getfield 21, 3) := by decide +kernel
theorem dX5_base_4 : decode cX5_base 4 = .ok (.getfield 140, 3) := by decide +kernel
theorem dX5_base_7 : decode cX5_base 7 = .ok (.ireturn, 1) := by decide +kernel
theorem dX5_depth_0 : decode cX5_depth 0 = .ok (.aload_n 0, 1) := by decide +kernel
theorem dX5_depth_1 : decode cX5_depth 1 = .ok (.getfield 143, 3) := by decide +kernel
theorem dX5_depth_4 : decode cX5_depth 4 = .ok (.ireturn, 1) := by decide +kernel
theorem dX5_octet_0 : decode cX5_octet 0 = .ok (.aload_n 0, 1) := by decide +kernel
theorem dX5_octet_1 : decode cX5_octet 1 = .ok (.getfield 10, 3) := by decide +kernel
theorem dX5_octet_4 : decode cX5_octet 4 = .ok (.iload_n 1, 1) := by decide +kernel
theorem dX5_octet_5 : decode cX5_octet 5 = .ok (.invokevirtual 146, 3) := by decide +kernel
theorem dX5_octet_8 : decode cX5_octet 8 = .ok (.ifCond .ne 13, 3) := by decide +kernel
theorem dX5_octet_11 : decode cX5_octet 11 = .ok (.new 149, 3) := by decide +kernel
theorem dX5_octet_14 : decode cX5_octet 14 = .ok (.dup, 1) := by decide +kernel
theorem dX5_octet_15 : decode cX5_octet 15 = .ok (.ldc 151, 2) := by decide +kernel
theorem dX5_octet_17 : decode cX5_octet 17 = .ok (.invokespecial 153, 3) := by decide +kernel
theorem dX5_octet_20 : decode cX5_octet 20 = .ok (.athrow, 1) := by decide +kernel
theorem dX5_octet_21 : decode cX5_octet 21 = .ok (.aload_n 0, 1) := by decide +kernel
theorem dX5_octet_22 : decode cX5_octet 22 = .ok (.getfield 10, 3) := by decide +kernel
theorem dX5_octet_25 : decode cX5_octet 25 = .ok (.iload_n 1, 1) := by decide +kernel
theorem dX5_octet_26 : decode cX5_octet 26 = .ok (.invokevirtual 91, 3) := by decide +kernel
theorem dX5_octet_29 : decode cX5_octet 29 = .ok (.i2b, 1) := by decide +kernel
theorem dX5_octet_30 : decode cX5_octet 30 = .ok (.ireturn, 1) := by decide +kernel
theorem dX5_clear_0 : decode cX5_clear 0 = .ok (.aload_n 0, 1) := by decide +kernel
theorem dX5_clear_1 : decode cX5_clear 1 = .ok (.getfield 10, 3) := by decide +kernel
theorem dX5_clear_4 : decode cX5_clear 4 = .ok (.invokevirtual 154, 3) := by decide +kernel
theorem dX5_clear_7 : decode cX5_clear 7 = .ok (.aload_n 0, 1) := by decide +kernel
theorem dX5_clear_8 : decode cX5_clear 8 = .ok (.getfield 21, 3) := by decide +kernel
theorem dX5_clear_11 : decode cX5_clear 11 = .ok (.bipush 10, 2) := by decide +kernel
theorem dX5_clear_13 : decode cX5_clear 13 = .ok (.putfield 140, 3) := by decide +kernel
theorem dX5_clear_16 : decode cX5_clear 16 = .ok (.aload_n 0, 1) := by decide +kernel
theorem dX5_clear_17 : decode cX5_clear 17 = .ok (.iconst 0, 1) := by decide +kernel
theorem dX5_clear_18 : decode cX5_clear 18 = .ok (.putfield 143, 3) := by decide +kernel
theorem dX5_clear_21 : decode cX5_clear 21 = .ok (.aload_n 0, 1) := by decide +kernel
theorem dX5_clear_22 : decode cX5_clear 22 = .ok (.getfield 46, 3) := by decide +kernel
theorem dX5_clear_25 : decode cX5_clear 25 = .ok (.iconst 0, 1) := by decide +kernel
theorem dX5_clear_26 : decode cX5_clear 26 = .ok (.invokevirtual 87, 3) := by decide +kernel
theorem dX5_clear_29 : decode cX5_clear 29 = .ok (.aload_n 0, 1) := by decide +kernel
theorem dX5_clear_30 : decode cX5_clear 30 = .ok (.iconst 0, 1) := by decide +kernel
theorem dX5_clear_31 : decode cX5_clear 31 = .ok (.putfield 104, 3) := by decide +kernel
theorem dX5_clear_34 : decode cX5_clear 34 = .ok (.return_, 1) := by decide +kernel
theorem dX5_keepDraft_0 : decode cX5_keepDraft 0 = .ok (.aload_n 0, 1) := by decide +kernel
theorem dX5_keepDraft_1 : decode cX5_keepDraft 1 = .ok (.getfield 46, 3) := by decide +kernel
theorem dX5_keepDraft_4 : decode cX5_keepDraft 4 = .ok (.astore_n 1, 1) := by decide +kernel
theorem dX5_keepDraft_5 : decode cX5_keepDraft 5 = .ok (.aload_n 0, 1) := by decide +kernel
theorem dX5_keepDraft_6 : decode cX5_keepDraft 6 = .ok (.aload_n 0, 1) := by decide +kernel
theorem dX5_keepDraft_7 : decode cX5_keepDraft 7 = .ok (.getfield 50, 3) := by decide +kernel
theorem dX5_keepDraft_10 : decode cX5_keepDraft 10 = .ok (.putfield 46, 3) := by decide +kernel
theorem dX5_keepDraft_13 : decode cX5_keepDraft 13 = .ok (.aload_n 0, 1) := by decide +kernel
theorem dX5_keepDraft_14 : decode cX5_keepDraft 14 = .ok (.aload_n 1, 1) := by decide +kernel
theorem dX5_keepDraft_15 : decode cX5_keepDraft 15 = .ok (.putfield 50, 3) := by decide +kernel
theorem dX5_keepDraft_18 : decode cX5_keepDraft 18 = .ok (.return_, 1) := by decide +kernel
theorem dX5_nothingFollows_0 : decode cX5_nothingFollows 0 = .ok (.aload_n 0, 1) := by decide +kernel
theorem dX5_nothingFollows_1 : decode cX5_nothingFollows 1 = .ok (.getfield 10, 3) := by decide +kernel
theorem dX5_nothingFollows_4 : decode cX5_nothingFollows 4 = .ok (.getfield 53, 3) := by decide +kernel
theorem dX5_nothingFollows_7 : decode cX5_nothingFollows 7 = .ok (.ifCond .ne 5, 3) := by decide +kernel
theorem dX5_nothingFollows_10 : decode cX5_nothingFollows 10 = .ok (.iconst 0, 1) := by decide +kernel
theorem dX5_nothingFollows_11 : decode cX5_nothingFollows 11 = .ok (.ireturn, 1) := by decide +kernel
theorem dX5_nothingFollows_12 : decode cX5_nothingFollows 12 = .ok (.aload_n 0, 1) := by decide +kernel
theorem dX5_nothingFollows_13 : decode cX5_nothingFollows 13 = .ok (.getfield 143, 3) := by decide +kernel
theorem dX5_nothingFollows_16 : decode cX5_nothingFollows 16 = .ok (.ifCond .gt 6, 3) := by decide +kernel
theorem dX5_nothingFollows_19 : decode cX5_nothingFollows 19 = .ok (.bipush 20, 2) := by decide +kernel
theorem dX5_nothingFollows_21 : decode cX5_nothingFollows 21 = .ok (.ireturn, 1) := by decide +kernel
theorem dX5_nothingFollows_22 : decode cX5_nothingFollows 22 = .ok (.aload_n 0, 1) := by decide +kernel
theorem dX5_nothingFollows_23 : decode cX5_nothingFollows 23 = .ok (.aload_n 0, 1) := by decide +kernel
theorem dX5_nothingFollows_24 : decode cX5_nothingFollows 24 = .ok (.getfield 39, 3) := by decide +kernel
theorem dX5_nothingFollows_27 : decode cX5_nothingFollows 27 = .ok (.aload_n 0, 1) := by decide +kernel
theorem dX5_nothingFollows_28 : decode cX5_nothingFollows 28 = .ok (.getfield 143, 3) := by decide +kernel
theorem dX5_nothingFollows_31 : decode cX5_nothingFollows 31 = .ok (.iconst 1, 1) := by decide +kernel
theorem dX5_nothingFollows_32 : decode cX5_nothingFollows 32 = .ok (.isub, 1) := by decide +kernel
theorem dX5_nothingFollows_33 : decode cX5_nothingFollows 33 = .ok (.iaload, 1) := by decide +kernel
theorem dX5_nothingFollows_34 : decode cX5_nothingFollows 34 = .ok (.putfield 104, 3) := by decide +kernel
theorem dX5_nothingFollows_37 : decode cX5_nothingFollows 37 = .ok (.aload_n 0, 1) := by decide +kernel
theorem dX5_nothingFollows_38 : decode cX5_nothingFollows 38 = .ok (.iconst 0, 1) := by decide +kernel
theorem dX5_nothingFollows_39 : decode cX5_nothingFollows 39 = .ok (.putfield 143, 3) := by decide +kernel
theorem dX5_nothingFollows_42 : decode cX5_nothingFollows 42 = .ok (.bipush (-7), 2) := by decide +kernel
theorem dX5_nothingFollows_44 : decode cX5_nothingFollows 44 = .ok (.ireturn, 1) := by decide +kernel
theorem dX5_readToken_0 : decode cX5_readToken 0 = .ok (.iload_n 1, 1) := by decide +kernel
theorem dX5_readToken_1 : decode cX5_readToken 1 = .ok (.sipush 128, 3) := by decide +kernel
theorem dX5_readToken_4 : decode cX5_readToken 4 = .ok (.if_icmp .lt 23, 3) := by decide +kernel
theorem dX5_readToken_7 : decode cX5_readToken 7 = .ok (.iload_n 1, 1) := by decide +kernel
theorem dX5_readToken_8 : decode cX5_readToken 8 = .ok (.sipush 159, 3) := by decide +kernel
theorem dX5_readToken_11 : decode cX5_readToken 11 = .ok (.if_icmp .gt 16, 3) := by decide +kernel
theorem dX5_readToken_14 : decode cX5_readToken 14 = .ok (.aload_n 0, 1) := by decide +kernel
theorem dX5_readToken_15 : decode cX5_readToken 15 = .ok (.getfield 35, 3) := by decide +kernel
theorem dX5_readToken_18 : decode cX5_readToken 18 = .ok (.aload_n 0, 1) := by decide +kernel
theorem dX5_readToken_19 : decode cX5_readToken 19 = .ok (.getfield 50, 3) := by decide +kernel
theorem dX5_readToken_22 : decode cX5_readToken 22 = .ok (.iload_n 1, 1) := by decide +kernel
theorem dX5_readToken_23 : decode cX5_readToken 23 = .ok (.invokevirtual 157, 3) := by decide +kernel
theorem dX5_readToken_26 : decode cX5_readToken 26 = .ok (.ireturn, 1) := by decide +kernel
theorem dX5_readToken_27 : decode cX5_readToken 27 = .ok (.iload_n 1, 1) := by decide +kernel
theorem dX5_readToken_28 : decode cX5_readToken 28 = .ok (.lookupswitch 137 #[(40, 96), (41, 108), (47, 84), (60, 111), (62, 116), (91, 121), (93, 124), (123, 127), (125, 132)], 84) := by decide +kernel
theorem dX5_readToken_112 : decode cX5_readToken 112 = .ok (.aload_n 0, 1) := by decide +kernel
theorem dX5_readToken_113 : decode cX5_readToken 113 = .ok (.getfield 21, 3) := by decide +kernel
theorem dX5_readToken_116 : decode cX5_readToken 116 = .ok (.aload_n 0, 1) := by decide +kernel
theorem dX5_readToken_117 : decode cX5_readToken 117 = .ok (.getfield 50, 3) := by decide +kernel
theorem dX5_readToken_120 : decode cX5_readToken 120 = .ok (.invokevirtual 161, 3) := by decide +kernel
theorem dX5_readToken_123 : decode cX5_readToken 123 = .ok (.ireturn, 1) := by decide +kernel
theorem dX5_readToken_124 : decode cX5_readToken 124 = .ok (.aload_n 0, 1) := by decide +kernel
theorem dX5_readToken_125 : decode cX5_readToken 125 = .ok (.getfield 28, 3) := by decide +kernel
theorem dX5_readToken_128 : decode cX5_readToken 128 = .ok (.aload_n 0, 1) := by decide +kernel
theorem dX5_readToken_129 : decode cX5_readToken 129 = .ok (.getfield 50, 3) := by decide +kernel
theorem dX5_readToken_132 : decode cX5_readToken 132 = .ok (.invokevirtual 165, 3) := by decide +kernel
theorem dX5_readToken_135 : decode cX5_readToken 135 = .ok (.ireturn, 1) := by decide +kernel
theorem dX5_readToken_136 : decode cX5_readToken 136 = .ok (.bipush (-4), 2) := by decide +kernel
theorem dX5_readToken_138 : decode cX5_readToken 138 = .ok (.ireturn, 1) := by decide +kernel
theorem dX5_readToken_139 : decode cX5_readToken 139 = .ok (.aload_n 0, 1) := by decide +kernel
theorem dX5_readToken_140 : decode cX5_readToken 140 = .ok (.invokevirtual 168, 3) := by decide +kernel
theorem dX5_readToken_143 : decode cX5_readToken 143 = .ok (.ireturn, 1) := by decide +kernel
theorem dX5_readToken_144 : decode cX5_readToken 144 = .ok (.aload_n 0, 1) := by decide +kernel
theorem dX5_readToken_145 : decode cX5_readToken 145 = .ok (.invokevirtual 171, 3) := by decide +kernel
theorem dX5_readToken_148 : decode cX5_readToken 148 = .ok (.ireturn, 1) := by decide +kernel
theorem dX5_readToken_149 : decode cX5_readToken 149 = .ok (.bipush 7, 2) := by decide +kernel
theorem dX5_readToken_151 : decode cX5_readToken 151 = .ok (.ireturn, 1) := by decide +kernel
theorem dX5_readToken_152 : decode cX5_readToken 152 = .ok (.bipush 8, 2) := by decide +kernel
theorem dX5_readToken_154 : decode cX5_readToken 154 = .ok (.ireturn, 1) := by decide +kernel
theorem dX5_readToken_155 : decode cX5_readToken 155 = .ok (.aload_n 0, 1) := by decide +kernel
theorem dX5_readToken_156 : decode cX5_readToken 156 = .ok (.invokevirtual 174, 3) := by decide +kernel
theorem dX5_readToken_159 : decode cX5_readToken 159 = .ok (.ireturn, 1) := by decide +kernel
theorem dX5_readToken_160 : decode cX5_readToken 160 = .ok (.aload_n 0, 1) := by decide +kernel
theorem dX5_readToken_161 : decode cX5_readToken 161 = .ok (.invokevirtual 177, 3) := by decide +kernel
theorem dX5_readToken_164 : decode cX5_readToken 164 = .ok (.ireturn, 1) := by decide +kernel
theorem dX5_readToken_165 : decode cX5_readToken 165 = .ok (.aload_n 0, 1) := by decide +kernel
theorem dX5_readToken_166 : decode cX5_readToken 166 = .ok (.getfield 21, 3) := by decide +kernel
theorem dX5_readToken_169 : decode cX5_readToken 169 = .ok (.aload_n 0, 1) := by decide +kernel
theorem dX5_readToken_170 : decode cX5_readToken 170 = .ok (.getfield 50, 3) := by decide +kernel
theorem dX5_readToken_173 : decode cX5_readToken 173 = .ok (.invokevirtual 180, 3) := by decide +kernel
theorem dX5_readToken_176 : decode cX5_readToken 176 = .ok (.ireturn, 1) := by decide +kernel
theorem dX5_readLess_0 : decode cX5_readLess 0 = .ok (.aload_n 0, 1) := by decide +kernel
theorem dX5_readLess_1 : decode cX5_readLess 1 = .ok (.getfield 10, 3) := by decide +kernel
theorem dX5_readLess_4 : decode cX5_readLess 4 = .ok (.aload_n 0, 1) := by decide +kernel
theorem dX5_readLess_5 : decode cX5_readLess 5 = .ok (.getfield 50, 3) := by decide +kernel
theorem dX5_readLess_8 : decode cX5_readLess 8 = .ok (.getfield 101, 3) := by decide +kernel
theorem dX5_readLess_11 : decode cX5_readLess 11 = .ok (.iconst 1, 1) := by decide +kernel
theorem dX5_readLess_12 : decode cX5_readLess 12 = .ok (.iadd, 1) := by decide +kernel
theorem dX5_readLess_13 : decode cX5_readLess 13 = .ok (.invokevirtual 91, 3) := by decide +kernel
theorem dX5_readLess_16 : decode cX5_readLess 16 = .ok (.lookupswitch 67 #[(-1, 36), (60, 48), (126, 55)], 36) := by decide +kernel
theorem dX5_readLess_52 : decode cX5_readLess 52 = .ok (.aload_n 0, 1) := by decide +kernel
theorem dX5_readLess_53 : decode cX5_readLess 53 = .ok (.getfield 10, 3) := by decide +kernel
theorem dX5_readLess_56 : decode cX5_readLess 56 = .ok (.aload_n 0, 1) := by decide +kernel
theorem dX5_readLess_57 : decode cX5_readLess 57 = .ok (.getfield 50, 3) := by decide +kernel
theorem dX5_readLess_60 : decode cX5_readLess 60 = .ok (.invokevirtual 183, 3) := by decide +kernel
theorem dX5_readLess_63 : decode cX5_readLess 63 = .ok (.ireturn, 1) := by decide +kernel
theorem dX5_readLess_64 : decode cX5_readLess 64 = .ok (.aload_n 0, 1) := by decide +kernel
theorem dX5_readLess_65 : decode cX5_readLess 65 = .ok (.bipush 11, 2) := by decide +kernel
theorem dX5_readLess_67 : decode cX5_readLess 67 = .ok (.invokevirtual 186, 3) := by decide +kernel
theorem dX5_readLess_70 : decode cX5_readLess 70 = .ok (.ireturn, 1) := by decide +kernel
theorem dX5_readLess_71 : decode cX5_readLess 71 = .ok (.aload_n 0, 1) := by decide +kernel
theorem dX5_readLess_72 : decode cX5_readLess 72 = .ok (.getfield 28, 3) := by decide +kernel
theorem dX5_readLess_75 : decode cX5_readLess 75 = .ok (.aload_n 0, 1) := by decide +kernel
theorem dX5_readLess_76 : decode cX5_readLess 76 = .ok (.getfield 50, 3) := by decide +kernel
theorem dX5_readLess_79 : decode cX5_readLess 79 = .ok (.invokevirtual 189, 3) := by decide +kernel
theorem dX5_readLess_82 : decode cX5_readLess 82 = .ok (.ireturn, 1) := by decide +kernel
theorem dX5_readLess_83 : decode cX5_readLess 83 = .ok (.aload_n 0, 1) := by decide +kernel
theorem dX5_readLess_84 : decode cX5_readLess 84 = .ok (.getfield 28, 3) := by decide +kernel
theorem dX5_readLess_87 : decode cX5_readLess 87 = .ok (.aload_n 0, 1) := by decide +kernel
theorem dX5_readLess_88 : decode cX5_readLess 88 = .ok (.getfield 50, 3) := by decide +kernel
theorem dX5_readLess_91 : decode cX5_readLess 91 = .ok (.invokevirtual 192, 3) := by decide +kernel
theorem dX5_readLess_94 : decode cX5_readLess 94 = .ok (.ireturn, 1) := by decide +kernel
theorem dX5_readGreater_0 : decode cX5_readGreater 0 = .ok (.aload_n 0, 1) := by decide +kernel
theorem dX5_readGreater_1 : decode cX5_readGreater 1 = .ok (.getfield 10, 3) := by decide +kernel
theorem dX5_readGreater_4 : decode cX5_readGreater 4 = .ok (.aload_n 0, 1) := by decide +kernel
theorem dX5_readGreater_5 : decode cX5_readGreater 5 = .ok (.getfield 50, 3) := by decide +kernel
theorem dX5_readGreater_8 : decode cX5_readGreater 8 = .ok (.getfield 101, 3) := by decide +kernel
theorem dX5_readGreater_11 : decode cX5_readGreater 11 = .ok (.iconst 1, 1) := by decide +kernel
theorem dX5_readGreater_12 : decode cX5_readGreater 12 = .ok (.iadd, 1) := by decide +kernel
theorem dX5_readGreater_13 : decode cX5_readGreater 13 = .ok (.invokevirtual 91, 3) := by decide +kernel
theorem dX5_readGreater_16 : decode cX5_readGreater 16 = .ok (.lookupswitch 52 #[(-1, 28), (62, 45)], 28) := by decide +kernel
theorem dX5_readGreater_44 : decode cX5_readGreater 44 = .ok (.aload_n 0, 1) := by decide +kernel
theorem dX5_readGreater_45 : decode cX5_readGreater 45 = .ok (.getfield 10, 3) := by decide +kernel
theorem dX5_readGreater_48 : decode cX5_readGreater 48 = .ok (.getfield 53, 3) := by decide +kernel
theorem dX5_readGreater_51 : decode cX5_readGreater 51 = .ok (.ifCond .eq 8, 3) := by decide +kernel
theorem dX5_readGreater_54 : decode cX5_readGreater 54 = .ok (.bipush (-4), 2) := by decide +kernel
theorem dX5_readGreater_56 : decode cX5_readGreater 56 = .ok (.goto 4, 3) := by decide +kernel
theorem dX5_readGreater_59 : decode cX5_readGreater 59 = .ok (.iconst 0, 1) := by decide +kernel
theorem dX5_readGreater_60 : decode cX5_readGreater 60 = .ok (.ireturn, 1) := by decide +kernel
theorem dX5_readGreater_61 : decode cX5_readGreater 61 = .ok (.aload_n 0, 1) := by decide +kernel
theorem dX5_readGreater_62 : decode cX5_readGreater 62 = .ok (.bipush 12, 2) := by decide +kernel
theorem dX5_readGreater_64 : decode cX5_readGreater 64 = .ok (.invokevirtual 186, 3) := by decide +kernel
theorem dX5_readGreater_67 : decode cX5_readGreater 67 = .ok (.ireturn, 1) := by decide +kernel
theorem dX5_readGreater_68 : decode cX5_readGreater 68 = .ok (.bipush (-4), 2) := by decide +kernel
theorem dX5_readGreater_70 : decode cX5_readGreater 70 = .ok (.ireturn, 1) := by decide +kernel
theorem dX5_pairMark_0 : decode cX5_pairMark 0 = .ok (.aload_n 0, 1) := by decide +kernel
theorem dX5_pairMark_1 : decode cX5_pairMark 1 = .ok (.getfield 50, 3) := by decide +kernel
theorem dX5_pairMark_4 : decode cX5_pairMark 4 = .ok (.aload_n 0, 1) := by decide +kernel
theorem dX5_pairMark_5 : decode cX5_pairMark 5 = .ok (.getfield 50, 3) := by decide +kernel
theorem dX5_pairMark_8 : decode cX5_pairMark 8 = .ok (.getfield 101, 3) := by decide +kernel
theorem dX5_pairMark_11 : decode cX5_pairMark 11 = .ok (.iconst 2, 1) := by decide +kernel
theorem dX5_pairMark_12 : decode cX5_pairMark 12 = .ok (.iadd, 1) := by decide +kernel
theorem dX5_pairMark_13 : decode cX5_pairMark 13 = .ok (.putfield 98, 3) := by decide +kernel
theorem dX5_pairMark_16 : decode cX5_pairMark 16 = .ok (.iload_n 1, 1) := by decide +kernel
theorem dX5_pairMark_17 : decode cX5_pairMark 17 = .ok (.ireturn, 1) := by decide +kernel
theorem dX5_openBrace_0 : decode cX5_openBrace 0 = .ok (.aload_n 0, 1) := by decide +kernel
theorem dX5_openBrace_1 : decode cX5_openBrace 1 = .ok (.getfield 143, 3) := by decide +kernel
theorem dX5_openBrace_4 : decode cX5_openBrace 4 = .ok (.aload_n 0, 1) := by decide +kernel
theorem dX5_openBrace_5 : decode cX5_openBrace 5 = .ok (.getfield 39, 3) := by decide +kernel
theorem dX5_openBrace_8 : decode cX5_openBrace 8 = .ok (.arraylength, 1) := by decide +kernel
theorem dX5_openBrace_9 : decode cX5_openBrace 9 = .ok (.if_icmp .lt 6, 3) := by decide +kernel
theorem dX5_openBrace_12 : decode cX5_openBrace 12 = .ok (.bipush (-2), 2) := by decide +kernel
theorem dX5_openBrace_14 : decode cX5_openBrace 14 = .ok (.ireturn, 1) := by decide +kernel
theorem dX5_openBrace_15 : decode cX5_openBrace 15 = .ok (.aload_n 0, 1) := by decide +kernel
theorem dX5_openBrace_16 : decode cX5_openBrace 16 = .ok (.getfield 39, 3) := by decide +kernel
theorem dX5_openBrace_19 : decode cX5_openBrace 19 = .ok (.aload_n 0, 1) := by decide +kernel
theorem dX5_openBrace_20 : decode cX5_openBrace 20 = .ok (.getfield 143, 3) := by decide +kernel
theorem dX5_openBrace_23 : decode cX5_openBrace 23 = .ok (.aload_n 0, 1) := by decide +kernel
theorem dX5_openBrace_24 : decode cX5_openBrace 24 = .ok (.getfield 50, 3) := by decide +kernel
theorem dX5_openBrace_27 : decode cX5_openBrace 27 = .ok (.getfield 101, 3) := by decide +kernel
theorem dX5_openBrace_30 : decode cX5_openBrace 30 = .ok (.iastore, 1) := by decide +kernel
theorem dX5_openBrace_31 : decode cX5_openBrace 31 = .ok (.aload_n 0, 1) := by decide +kernel
theorem dX5_openBrace_32 : decode cX5_openBrace 32 = .ok (.dup, 1) := by decide +kernel
theorem dX5_openBrace_33 : decode cX5_openBrace 33 = .ok (.getfield 143, 3) := by decide +kernel
theorem dX5_openBrace_36 : decode cX5_openBrace 36 = .ok (.iconst 1, 1) := by decide +kernel
theorem dX5_openBrace_37 : decode cX5_openBrace 37 = .ok (.iadd, 1) := by decide +kernel
theorem dX5_openBrace_38 : decode cX5_openBrace 38 = .ok (.putfield 143, 3) := by decide +kernel
theorem dX5_openBrace_41 : decode cX5_openBrace 41 = .ok (.bipush 9, 2) := by decide +kernel
theorem dX5_openBrace_43 : decode cX5_openBrace 43 = .ok (.ireturn, 1) := by decide +kernel
theorem dX5_closeBrace_0 : decode cX5_closeBrace 0 = .ok (.aload_n 0, 1) := by decide +kernel
theorem dX5_closeBrace_1 : decode cX5_closeBrace 1 = .ok (.getfield 143, 3) := by decide +kernel
theorem dX5_closeBrace_4 : decode cX5_closeBrace 4 = .ok (.ifCond .ne 6, 3) := by decide +kernel
theorem dX5_closeBrace_7 : decode cX5_closeBrace 7 = .ok (.bipush (-4), 2) := by decide +kernel
theorem dX5_closeBrace_9 : decode cX5_closeBrace 9 = .ok (.ireturn, 1) := by decide +kernel
theorem dX5_closeBrace_10 : decode cX5_closeBrace 10 = .ok (.aload_n 0, 1) := by decide +kernel
theorem dX5_closeBrace_11 : decode cX5_closeBrace 11 = .ok (.dup, 1) := by decide +kernel
theorem dX5_closeBrace_12 : decode cX5_closeBrace 12 = .ok (.getfield 143, 3) := by decide +kernel
theorem dX5_closeBrace_15 : decode cX5_closeBrace 15 = .ok (.iconst 1, 1) := by decide +kernel
theorem dX5_closeBrace_16 : decode cX5_closeBrace 16 = .ok (.isub, 1) := by decide +kernel
theorem dX5_closeBrace_17 : decode cX5_closeBrace 17 = .ok (.putfield 143, 3) := by decide +kernel
theorem dX5_closeBrace_20 : decode cX5_closeBrace 20 = .ok (.bipush 10, 2) := by decide +kernel
theorem dX5_closeBrace_22 : decode cX5_closeBrace 22 = .ok (.ireturn, 1) := by decide +kernel
theorem dX5_digitOf_0 : decode cX5_digitOf 0 = .ok (.iload_n 0, 1) := by decide +kernel
theorem dX5_digitOf_1 : decode cX5_digitOf 1 = .ok (.bipush 48, 2) := by decide +kernel
theorem dX5_digitOf_3 : decode cX5_digitOf 3 = .ok (.if_icmp .lt 14, 3) := by decide +kernel
theorem dX5_digitOf_6 : decode cX5_digitOf 6 = .ok (.iload_n 0, 1) := by decide +kernel
theorem dX5_digitOf_7 : decode cX5_digitOf 7 = .ok (.bipush 57, 2) := by decide +kernel
theorem dX5_digitOf_9 : decode cX5_digitOf 9 = .ok (.if_icmp .gt 8, 3) := by decide +kernel
theorem dX5_digitOf_12 : decode cX5_digitOf 12 = .ok (.iload_n 0, 1) := by decide +kernel
theorem dX5_digitOf_13 : decode cX5_digitOf 13 = .ok (.bipush 48, 2) := by decide +kernel
theorem dX5_digitOf_15 : decode cX5_digitOf 15 = .ok (.isub, 1) := by decide +kernel
theorem dX5_digitOf_16 : decode cX5_digitOf 16 = .ok (.ireturn, 1) := by decide +kernel
theorem dX5_digitOf_17 : decode cX5_digitOf 17 = .ok (.iload_n 0, 1) := by decide +kernel
theorem dX5_digitOf_18 : decode cX5_digitOf 18 = .ok (.bipush 97, 2) := by decide +kernel
theorem dX5_digitOf_20 : decode cX5_digitOf 20 = .ok (.if_icmp .lt 17, 3) := by decide +kernel
theorem dX5_digitOf_23 : decode cX5_digitOf 23 = .ok (.iload_n 0, 1) := by decide +kernel
theorem dX5_digitOf_24 : decode cX5_digitOf 24 = .ok (.bipush 122, 2) := by decide +kernel
theorem dX5_digitOf_26 : decode cX5_digitOf 26 = .ok (.if_icmp .gt 11, 3) := by decide +kernel
theorem dX5_digitOf_29 : decode cX5_digitOf 29 = .ok (.iload_n 0, 1) := by decide +kernel
theorem dX5_digitOf_30 : decode cX5_digitOf 30 = .ok (.bipush 97, 2) := by decide +kernel
theorem dX5_digitOf_32 : decode cX5_digitOf 32 = .ok (.isub, 1) := by decide +kernel
theorem dX5_digitOf_33 : decode cX5_digitOf 33 = .ok (.bipush 10, 2) := by decide +kernel
theorem dX5_digitOf_35 : decode cX5_digitOf 35 = .ok (.iadd, 1) := by decide +kernel
theorem dX5_digitOf_36 : decode cX5_digitOf 36 = .ok (.ireturn, 1) := by decide +kernel
theorem dX5_digitOf_37 : decode cX5_digitOf 37 = .ok (.iload_n 0, 1) := by decide +kernel
theorem dX5_digitOf_38 : decode cX5_digitOf 38 = .ok (.bipush 65, 2) := by decide +kernel
theorem dX5_digitOf_40 : decode cX5_digitOf 40 = .ok (.if_icmp .lt 17, 3) := by decide +kernel
theorem dX5_digitOf_43 : decode cX5_digitOf 43 = .ok (.iload_n 0, 1) := by decide +kernel
theorem dX5_digitOf_44 : decode cX5_digitOf 44 = .ok (.bipush 90, 2) := by decide +kernel
theorem dX5_digitOf_46 : decode cX5_digitOf 46 = .ok (.if_icmp .gt 11, 3) := by decide +kernel
theorem dX5_digitOf_49 : decode cX5_digitOf 49 = .ok (.iload_n 0, 1) := by decide +kernel
theorem dX5_digitOf_50 : decode cX5_digitOf 50 = .ok (.bipush 65, 2) := by decide +kernel
theorem dX5_digitOf_52 : decode cX5_digitOf 52 = .ok (.isub, 1) := by decide +kernel
theorem dX5_digitOf_53 : decode cX5_digitOf 53 = .ok (.bipush 10, 2) := by decide +kernel
theorem dX5_digitOf_55 : decode cX5_digitOf 55 = .ok (.iadd, 1) := by decide +kernel
theorem dX5_digitOf_56 : decode cX5_digitOf 56 = .ok (.ireturn, 1) := by decide +kernel
theorem dX5_digitOf_57 : decode cX5_digitOf 57 = .ok (.bipush 36, 2) := by decide +kernel
theorem dX5_digitOf_59 : decode cX5_digitOf 59 = .ok (.ireturn, 1) := by decide +kernel
theorem dX5_scaled_0 : decode cX5_scaled 0 = .ok (.dload_n 0, 1) := by decide +kernel
theorem dX5_scaled_1 : decode cX5_scaled 1 = .ok (.dstore 5, 2) := by decide +kernel
theorem dX5_scaled_3 : decode cX5_scaled 3 = .ok (.iconst 0, 1) := by decide +kernel
theorem dX5_scaled_4 : decode cX5_scaled 4 = .ok (.istore 7, 2) := by decide +kernel
theorem dX5_scaled_6 : decode cX5_scaled 6 = .ok (.iload 7, 2) := by decide +kernel
theorem dX5_scaled_8 : decode cX5_scaled 8 = .ok (.iload 4, 2) := by decide +kernel
theorem dX5_scaled_10 : decode cX5_scaled 10 = .ok (.if_icmp .ge 15, 3) := by decide +kernel
theorem dX5_scaled_13 : decode cX5_scaled 13 = .ok (.dload 5, 2) := by decide +kernel
theorem dX5_scaled_15 : decode cX5_scaled 15 = .ok (.dload_n 2, 1) := by decide +kernel
theorem dX5_scaled_16 : decode cX5_scaled 16 = .ok (.dmul, 1) := by decide +kernel
theorem dX5_scaled_17 : decode cX5_scaled 17 = .ok (.dstore 5, 2) := by decide +kernel
theorem dX5_scaled_19 : decode cX5_scaled 19 = .ok (.iinc 7 1, 3) := by decide +kernel
theorem dX5_scaled_22 : decode cX5_scaled 22 = .ok (.goto (-16), 3) := by decide +kernel
theorem dX5_scaled_25 : decode cX5_scaled 25 = .ok (.iconst 0, 1) := by decide +kernel
theorem dX5_scaled_26 : decode cX5_scaled 26 = .ok (.istore 7, 2) := by decide +kernel
theorem dX5_scaled_28 : decode cX5_scaled 28 = .ok (.iload 7, 2) := by decide +kernel
theorem dX5_scaled_30 : decode cX5_scaled 30 = .ok (.iload 4, 2) := by decide +kernel
theorem dX5_scaled_32 : decode cX5_scaled 32 = .ok (.if_icmp .le 15, 3) := by decide +kernel
theorem dX5_scaled_35 : decode cX5_scaled 35 = .ok (.dload 5, 2) := by decide +kernel
theorem dX5_scaled_37 : decode cX5_scaled 37 = .ok (.dload_n 2, 1) := by decide +kernel
theorem dX5_scaled_38 : decode cX5_scaled 38 = .ok (.ddiv, 1) := by decide +kernel
theorem dX5_scaled_39 : decode cX5_scaled 39 = .ok (.dstore 5, 2) := by decide +kernel
theorem dX5_scaled_41 : decode cX5_scaled 41 = .ok (.iinc 7 (-1), 3) := by decide +kernel
theorem dX5_scaled_44 : decode cX5_scaled 44 = .ok (.goto (-16), 3) := by decide +kernel
theorem dX5_scaled_47 : decode cX5_scaled 47 = .ok (.dload 5, 2) := by decide +kernel
theorem dX5_scaled_49 : decode cX5_scaled 49 = .ok (.dreturn, 1) := by decide +kernel
theorem dJx00060_init_a7421_0 : decode cJx00060_init_a7421 0 = .ok (.aload_n 0, 1) := by decide +kernel
theorem dJx00060_init_a7421_1 : decode cJx00060_init_a7421 1 = .ok (.aload_n 1, 1) := by decide +kernel
theorem dJx00060_init_a7421_2 : decode cJx00060_init_a7421 2 = .ok (.invokespecial 7, 3) := by decide +kernel
theorem dJx00060_init_a7421_5 : decode cJx00060_init_a7421 5 = .ok (.return_, 1) := by decide +kernel
theorem dJ9_max_7cf53_0 : decode cJ9_max_7cf53 0 = .ok (.iload_n 0, 1) := by decide +kernel
theorem dJ9_max_7cf53_1 : decode cJ9_max_7cf53 1 = .ok (.iload_n 1, 1) := by decide +kernel
theorem dJ9_max_7cf53_2 : decode cJ9_max_7cf53 2 = .ok (.if_icmp .lt 7, 3) := by decide +kernel
theorem dJ9_max_7cf53_5 : decode cJ9_max_7cf53 5 = .ok (.iload_n 0, 1) := by decide +kernel
theorem dJ9_max_7cf53_6 : decode cJ9_max_7cf53 6 = .ok (.goto 4, 3) := by decide +kernel
theorem dJ9_max_7cf53_9 : decode cJ9_max_7cf53 9 = .ok (.iload_n 1, 1) := by decide +kernel
theorem dJ9_max_7cf53_10 : decode cJ9_max_7cf53 10 = .ok (.ireturn, 1) := by decide +kernel
theorem dJ9_min_f86c9_0 : decode cJ9_min_f86c9 0 = .ok (.lload_n 0, 1) := by decide +kernel
theorem dJ9_min_f86c9_1 : decode cJ9_min_f86c9 1 = .ok (.lload_n 2, 1) := by decide +kernel
theorem dJ9_min_f86c9_2 : decode cJ9_min_f86c9 2 = .ok (.lcmp, 1) := by decide +kernel
theorem dJ9_min_f86c9_3 : decode cJ9_min_f86c9 3 = .ok (.ifCond .gt 7, 3) := by decide +kernel
theorem dJ9_min_f86c9_6 : decode cJ9_min_f86c9 6 = .ok (.lload_n 0, 1) := by decide +kernel
theorem dJ9_min_f86c9_7 : decode cJ9_min_f86c9 7 = .ok (.goto 4, 3) := by decide +kernel
theorem dJ9_min_f86c9_10 : decode cJ9_min_f86c9 10 = .ok (.lload_n 2, 1) := by decide +kernel
theorem dJ9_min_f86c9_11 : decode cJ9_min_f86c9 11 = .ok (.lreturn, 1) := by decide +kernel
theorem dL_add_0 : decode cL_add 0 = .ok (.aload_n 2, 1) := by decide +kernel
theorem dL_add_1 : decode cL_add 1 = .ok (.iconst 0, 1) := by decide +kernel
theorem dL_add_2 : decode cL_add 2 = .ok (.aload_n 0, 1) := by decide +kernel
theorem dL_add_3 : decode cL_add 3 = .ok (.iload_n 1, 1) := by decide +kernel
theorem dL_add_4 : decode cL_add 4 = .ok (.invokevirtual 7, 3) := by decide +kernel
theorem dL_add_7 : decode cL_add 7 = .ok (.i2l, 1) := by decide +kernel
theorem dL_add_8 : decode cL_add 8 = .ok (.lastore, 1) := by decide +kernel
theorem dL_add_9 : decode cL_add 9 = .ok (.goto 9, 3) := by decide +kernel
theorem dL_add_12 : decode cL_add 12 = .ok (.astore_n 3, 1) := by decide +kernel
theorem dL_add_13 : decode cL_add 13 = .ok (.iconst 1, 1) := by decide +kernel
theorem dL_add_14 : decode cL_add 14 = .ok (.ireturn, 1) := by decide +kernel
theorem dL_add_15 : decode cL_add 15 = .ok (.astore_n 3, 1) := by decide +kernel
theorem dL_add_16 : decode cL_add 16 = .ok (.iconst 2, 1) := by decide +kernel
theorem dL_add_17 : decode cL_add 17 = .ok (.ireturn, 1) := by decide +kernel
theorem dL_add_18 : decode cL_add 18 = .ok (.iconst 0, 1) := by decide +kernel
theorem dL_add_19 : decode cL_add 19 = .ok (.ireturn, 1) := by decide +kernel
theorem dL_binary_0 : decode cL_binary 0 = .ok (.aload_n 3, 1) := by decide +kernel
theorem dL_binary_1 : decode cL_binary 1 = .ok (.iconst 0, 1) := by decide +kernel
theorem dL_binary_2 : decode cL_binary 2 = .ok (.aload_n 0, 1) := by decide +kernel
theorem dL_binary_3 : decode cL_binary 3 = .ok (.iload_n 1, 1) := by decide +kernel
theorem dL_binary_4 : decode cL_binary 4 = .ok (.iload_n 2, 1) := by decide +kernel
theorem dL_binary_5 : decode cL_binary 5 = .ok (.invokevirtual 17, 3) := by decide +kernel
theorem dL_binary_8 : decode cL_binary 8 = .ok (.i2l, 1) := by decide +kernel
theorem dL_binary_9 : decode cL_binary 9 = .ok (.lastore, 1) := by decide +kernel
theorem dL_binary_10 : decode cL_binary 10 = .ok (.goto 7, 3) := by decide +kernel
theorem dL_binary_13 : decode cL_binary 13 = .ok (.astore 4, 2) := by decide +kernel
theorem dL_binary_15 : decode cL_binary 15 = .ok (.iconst 1, 1) := by decide +kernel
theorem dL_binary_16 : decode cL_binary 16 = .ok (.ireturn, 1) := by decide +kernel
theorem dL_binary_17 : decode cL_binary 17 = .ok (.iconst 0, 1) := by decide +kernel
theorem dL_binary_18 : decode cL_binary 18 = .ok (.ireturn, 1) := by decide +kernel
theorem dL_binaryReal_0 : decode cL_binaryReal 0 = .ok (.aload_n 2, 1) := by decide +kernel
theorem dL_binaryReal_1 : decode cL_binaryReal 1 = .ok (.iconst 0, 1) := by decide +kernel
theorem dL_binaryReal_2 : decode cL_binaryReal 2 = .ok (.aload_n 0, 1) := by decide +kernel
theorem dL_binaryReal_3 : decode cL_binaryReal 3 = .ok (.iload_n 1, 1) := by decide +kernel
theorem dL_binaryReal_4 : decode cL_binaryReal 4 = .ok (.invokevirtual 23, 3) := by decide +kernel
theorem dL_binaryReal_7 : decode cL_binaryReal 7 = .ok (.dastore, 1) := by decide +kernel
theorem dL_binaryReal_8 : decode cL_binaryReal 8 = .ok (.goto 6, 3) := by decide +kernel
theorem dL_binaryReal_11 : decode cL_binaryReal 11 = .ok (.astore_n 3, 1) := by decide +kernel
theorem dL_binaryReal_12 : decode cL_binaryReal 12 = .ok (.iconst 1, 1) := by decide +kernel
theorem dL_binaryReal_13 : decode cL_binaryReal 13 = .ok (.ireturn, 1) := by decide +kernel
theorem dL_binaryReal_14 : decode cL_binaryReal 14 = .ok (.iconst 0, 1) := by decide +kernel
theorem dL_binaryReal_15 : decode cL_binaryReal 15 = .ok (.ireturn, 1) := by decide +kernel
theorem dL_octet_0 : decode cL_octet 0 = .ok (.aload_n 2, 1) := by decide +kernel
theorem dL_octet_1 : decode cL_octet 1 = .ok (.iconst 0, 1) := by decide +kernel
theorem dL_octet_2 : decode cL_octet 2 = .ok (.aload_n 0, 1) := by decide +kernel
theorem dL_octet_3 : decode cL_octet 3 = .ok (.iload_n 1, 1) := by decide +kernel
theorem dL_octet_4 : decode cL_octet 4 = .ok (.invokevirtual 27, 3) := by decide +kernel
theorem dL_octet_7 : decode cL_octet 7 = .ok (.i2l, 1) := by decide +kernel
theorem dL_octet_8 : decode cL_octet 8 = .ok (.lastore, 1) := by decide +kernel
theorem dL_octet_9 : decode cL_octet 9 = .ok (.goto 6, 3) := by decide +kernel
theorem dL_octet_12 : decode cL_octet 12 = .ok (.astore_n 3, 1) := by decide +kernel
theorem dL_octet_13 : decode cL_octet 13 = .ok (.iconst 1, 1) := by decide +kernel
theorem dL_octet_14 : decode cL_octet 14 = .ok (.ireturn, 1) := by decide +kernel
theorem dL_octet_15 : decode cL_octet 15 = .ok (.iconst 0, 1) := by decide +kernel
theorem dL_octet_16 : decode cL_octet 16 = .ok (.ireturn, 1) := by decide +kernel
theorem dL_law_0 : decode cL_law 0 = .ok (.new 8, 3) := by decide +kernel
theorem dL_law_3 : decode cL_law 3 = .ok (.dup, 1) := by decide +kernel
theorem dL_law_4 : decode cL_law 4 = .ok (.invokespecial 33, 3) := by decide +kernel
theorem dL_law_7 : decode cL_law 7 = .ok (.astore_n 1, 1) := by decide +kernel
theorem dL_law_8 : decode cL_law 8 = .ok (.new 34, 3) := by decide +kernel
theorem dL_law_11 : decode cL_law 11 = .ok (.dup, 1) := by decide +kernel
theorem dL_law_12 : decode cL_law 12 = .ok (.invokespecial 36, 3) := by decide +kernel
theorem dL_law_15 : decode cL_law 15 = .ok (.astore_n 2, 1) := by decide +kernel
theorem dL_law_16 : decode cL_law 16 = .ok (.iconst 1, 1) := by decide +kernel
theorem dL_law_17 : decode cL_law 17 = .ok (.newarray .long, 2) := by decide +kernel
theorem dL_law_19 : decode cL_law 19 = .ok (.astore_n 3, 1) := by decide +kernel
theorem dL_law_20 : decode cL_law 20 = .ok (.iconst 1, 1) := by decide +kernel
theorem dL_law_21 : decode cL_law 21 = .ok (.newarray .double, 2) := by decide +kernel
theorem dL_law_23 : decode cL_law 23 = .ok (.astore 4, 2) := by decide +kernel
theorem dL_law_25 : decode cL_law 25 = .ok (.iconst 0, 1) := by decide +kernel
theorem dL_law_26 : decode cL_law 26 = .ok (.istore 5, 2) := by decide +kernel
theorem dL_law_28 : decode cL_law 28 = .ok (.iload 5, 2) := by decide +kernel
theorem dL_law_30 : decode cL_law 30 = .ok (.aload_n 0, 1) := by decide +kernel
theorem dL_law_31 : decode cL_law 31 = .ok (.arraylength, 1) := by decide +kernel
theorem dL_law_32 : decode cL_law 32 = .ok (.iconst 3, 1) := by decide +kernel
theorem dL_law_33 : decode cL_law 33 = .ok (.isub, 1) := by decide +kernel
theorem dL_law_34 : decode cL_law 34 = .ok (.if_icmp .gt 499, 3) := by decide +kernel
theorem dL_law_37 : decode cL_law 37 = .ok (.aload_n 0, 1) := by decide +kernel
theorem dL_law_38 : decode cL_law 38 = .ok (.iload 5, 2) := by decide +kernel
theorem dL_law_40 : decode cL_law 40 = .ok (.iaload, 1) := by decide +kernel
theorem dL_law_41 : decode cL_law 41 = .ok (.bipush 15, 2) := by decide +kernel
theorem dL_law_43 : decode cL_law 43 = .ok (.iand, 1) := by decide +kernel
theorem dL_law_44 : decode cL_law 44 = .ok (.tableswitch 483 0 12 #[68, 126, 139, 152, 166, 207, 232, 300, 377, 390, 403, 416, 472], 68) := by decide +kernel
theorem dL_law_112 : decode cL_law 112 = .ok (.aload_n 1, 1) := by decide +kernel
theorem dL_law_113 : decode cL_law 113 = .ok (.aload_n 0, 1) := by decide +kernel
theorem dL_law_114 : decode cL_law 114 = .ok (.iload 5, 2) := by decide +kernel
theorem dL_law_116 : decode cL_law 116 = .ok (.iconst 1, 1) := by decide +kernel
theorem dL_law_117 : decode cL_law 117 = .ok (.iadd, 1) := by decide +kernel
theorem dL_law_118 : decode cL_law 118 = .ok (.iaload, 1) := by decide +kernel
theorem dL_law_119 : decode cL_law 119 = .ok (.i2b, 1) := by decide +kernel
theorem dL_law_120 : decode cL_law 120 = .ok (.aload_n 3, 1) := by decide +kernel
theorem dL_law_121 : decode cL_law 121 = .ok (.invokestatic 37, 3) := by decide +kernel
theorem dL_law_124 : decode cL_law 124 = .ok (.istore 6, 2) := by decide +kernel
theorem dL_law_126 : decode cL_law 126 = .ok (.aload_n 2, 1) := by decide +kernel
theorem dL_law_127 : decode cL_law 127 = .ok (.aload_n 0, 1) := by decide +kernel
theorem dL_law_128 : decode cL_law 128 = .ok (.iload 5, 2) := by decide +kernel
theorem dL_law_130 : decode cL_law 130 = .ok (.iconst 1, 1) := by decide +kernel
theorem dL_law_131 : decode cL_law 131 = .ok (.iadd, 1) := by decide +kernel
theorem dL_law_132 : decode cL_law 132 = .ok (.iaload, 1) := by decide +kernel
theorem dL_law_133 : decode cL_law 133 = .ok (.i2b, 1) := by decide +kernel
theorem dL_law_134 : decode cL_law 134 = .ok (.invokevirtual 42, 3) := by decide +kernel
theorem dL_law_137 : decode cL_law 137 = .ok (.istore 7, 2) := by decide +kernel
theorem dL_law_139 : decode cL_law 139 = .ok (.aload_n 2, 1) := by decide +kernel
theorem dL_law_140 : decode cL_law 140 = .ok (.invokevirtual 43, 3) := by decide +kernel
theorem dL_law_143 : decode cL_law 143 = .ok (.iload 6, 2) := by decide +kernel
theorem dL_law_145 : decode cL_law 145 = .ok (.if_icmp .eq 5, 3) := by decide +kernel
theorem dL_law_148 : decode cL_law 148 = .ok (.iconst 0, 1) := by decide +kernel
theorem dL_law_149 : decode cL_law 149 = .ok (.ireturn, 1) := by decide +kernel
theorem dL_law_150 : decode cL_law 150 = .ok (.iload 6, 2) := by decide +kernel
theorem dL_law_152 : decode cL_law 152 = .ok (.ifCond .ne 15, 3) := by decide +kernel
theorem dL_law_155 : decode cL_law 155 = .ok (.aload_n 3, 1) := by decide +kernel
theorem dL_law_156 : decode cL_law 156 = .ok (.iconst 0, 1) := by decide +kernel
theorem dL_law_157 : decode cL_law 157 = .ok (.laload, 1) := by decide +kernel
theorem dL_law_158 : decode cL_law 158 = .ok (.iload 7, 2) := by decide +kernel
theorem dL_law_160 : decode cL_law 160 = .ok (.i2l, 1) := by decide +kernel
theorem dL_law_161 : decode cL_law 161 = .ok (.lcmp, 1) := by decide +kernel
theorem dL_law_162 : decode cL_law 162 = .ok (.ifCond .eq 5, 3) := by decide +kernel
theorem dL_law_165 : decode cL_law 165 = .ok (.iconst 0, 1) := by decide +kernel
theorem dL_law_166 : decode cL_law 166 = .ok (.ireturn, 1) := by decide +kernel
theorem dL_law_167 : decode cL_law 167 = .ok (.goto 360, 3) := by decide +kernel
theorem dL_law_170 : decode cL_law 170 = .ok (.aload_n 1, 1) := by decide +kernel
theorem dL_law_171 : decode cL_law 171 = .ok (.invokevirtual 47, 3) := by decide +kernel
theorem dL_law_174 : decode cL_law 174 = .ok (.aload_n 2, 1) := by decide +kernel
theorem dL_law_175 : decode cL_law 175 = .ok (.invokevirtual 50, 3) := by decide +kernel
theorem dL_law_178 : decode cL_law 178 = .ok (.if_icmp .eq 349, 3) := by decide +kernel
theorem dL_law_181 : decode cL_law 181 = .ok (.iconst 0, 1) := by decide +kernel
theorem dL_law_182 : decode cL_law 182 = .ok (.ireturn, 1) := by decide +kernel
theorem dL_law_183 : decode cL_law 183 = .ok (.aload_n 1, 1) := by decide +kernel
theorem dL_law_184 : decode cL_law 184 = .ok (.invokevirtual 51, 3) := by decide +kernel
theorem dL_law_187 : decode cL_law 187 = .ok (.aload_n 2, 1) := by decide +kernel
theorem dL_law_188 : decode cL_law 188 = .ok (.invokevirtual 54, 3) := by decide +kernel
theorem dL_law_191 : decode cL_law 191 = .ok (.if_icmp .eq 336, 3) := by decide +kernel
theorem dL_law_194 : decode cL_law 194 = .ok (.iconst 0, 1) := by decide +kernel
theorem dL_law_195 : decode cL_law 195 = .ok (.ireturn, 1) := by decide +kernel
theorem dL_law_196 : decode cL_law 196 = .ok (.aload_n 1, 1) := by decide +kernel
theorem dL_law_197 : decode cL_law 197 = .ok (.invokevirtual 55, 3) := by decide +kernel
theorem dL_law_200 : decode cL_law 200 = .ok (.aload_n 2, 1) := by decide +kernel
theorem dL_law_201 : decode cL_law 201 = .ok (.invokevirtual 59, 3) := by decide +kernel
theorem dL_law_204 : decode cL_law 204 = .ok (.lcmp, 1) := by decide +kernel
theorem dL_law_205 : decode cL_law 205 = .ok (.ifCond .eq 322, 3) := by decide +kernel
theorem dL_law_208 : decode cL_law 208 = .ok (.iconst 0, 1) := by decide +kernel
theorem dL_law_209 : decode cL_law 209 = .ok (.ireturn, 1) := by decide +kernel
theorem dL_law_210 : decode cL_law 210 = .ok (.aload_n 1, 1) := by decide +kernel
theorem dL_law_211 : decode cL_law 211 = .ok (.invokevirtual 60, 3) := by decide +kernel
theorem dL_law_214 : decode cL_law 214 = .ok (.dstore 6, 2) := by decide +kernel
theorem dL_law_216 : decode cL_law 216 = .ok (.aload_n 2, 1) := by decide +kernel
theorem dL_law_217 : decode cL_law 217 = .ok (.invokevirtual 64, 3) := by decide +kernel
theorem dL_law_220 : decode cL_law 220 = .ok (.dstore 8, 2) := by decide +kernel
theorem dL_law_222 : decode cL_law 222 = .ok (.dload 6, 2) := by decide +kernel
theorem dL_law_224 : decode cL_law 224 = .ok (.dload 8, 2) := by decide +kernel
theorem dL_law_226 : decode cL_law 226 = .ok (.dcmp .l, 1) := by decide +kernel
theorem dL_law_227 : decode cL_law 227 = .ok (.ifCond .eq 21, 3) := by decide +kernel
theorem dL_law_230 : decode cL_law 230 = .ok (.dload 6, 2) := by decide +kernel
theorem dL_law_232 : decode cL_law 232 = .ok (.dload 6, 2) := by decide +kernel
theorem dL_law_234 : decode cL_law 234 = .ok (.dcmp .l, 1) := by decide +kernel
theorem dL_law_235 : decode cL_law 235 = .ok (.ifCond .eq 11, 3) := by decide +kernel
theorem dL_law_238 : decode cL_law 238 = .ok (.dload 8, 2) := by decide +kernel
theorem dL_law_240 : decode cL_law 240 = .ok (.dload 8, 2) := by decide +kernel
theorem dL_law_242 : decode cL_law 242 = .ok (.dcmp .l, 1) := by decide +kernel
theorem dL_law_243 : decode cL_law 243 = .ok (.ifCond .ne 5, 3) := by decide +kernel
theorem dL_law_246 : decode cL_law 246 = .ok (.iconst 0, 1) := by decide +kernel
theorem dL_law_247 : decode cL_law 247 = .ok (.ireturn, 1) := by decide +kernel
theorem dL_law_248 : decode cL_law 248 = .ok (.goto 279, 3) := by decide +kernel
theorem dL_law_251 : decode cL_law 251 = .ok (.aload_n 1, 1) := by decide +kernel
theorem dL_law_252 : decode cL_law 252 = .ok (.aload_n 0, 1) := by decide +kernel
theorem dL_law_253 : decode cL_law 253 = .ok (.iload 5, 2) := by decide +kernel
theorem dL_law_255 : decode cL_law 255 = .ok (.iconst 1, 1) := by decide +kernel
theorem dL_law_256 : decode cL_law 256 = .ok (.iadd, 1) := by decide +kernel
theorem dL_law_257 : decode cL_law 257 = .ok (.iaload, 1) := by decide +kernel
theorem dL_law_258 : decode cL_law 258 = .ok (.invokevirtual 65, 3) := by decide +kernel
theorem dL_law_261 : decode cL_law 261 = .ok (.aload_n 2, 1) := by decide +kernel
theorem dL_law_262 : decode cL_law 262 = .ok (.aload_n 0, 1) := by decide +kernel
theorem dL_law_263 : decode cL_law 263 = .ok (.iload 5, 2) := by decide +kernel
theorem dL_law_265 : decode cL_law 265 = .ok (.iconst 1, 1) := by decide +kernel
theorem dL_law_266 : decode cL_law 266 = .ok (.iadd, 1) := by decide +kernel
theorem dL_law_267 : decode cL_law 267 = .ok (.iaload, 1) := by decide +kernel
theorem dL_law_268 : decode cL_law 268 = .ok (.invokevirtual 69, 3) := by decide +kernel
theorem dL_law_271 : decode cL_law 271 = .ok (.if_icmp .eq 256, 3) := by decide +kernel
theorem dL_law_274 : decode cL_law 274 = .ok (.iconst 0, 1) := by decide +kernel
theorem dL_law_275 : decode cL_law 275 = .ok (.ireturn, 1) := by decide +kernel
theorem dL_law_276 : decode cL_law 276 = .ok (.aload_n 1, 1) := by decide +kernel
theorem dL_law_277 : decode cL_law 277 = .ok (.aload_n 0, 1) := by decide +kernel
theorem dL_law_278 : decode cL_law 278 = .ok (.iload 5, 2) := by decide +kernel
theorem dL_law_280 : decode cL_law 280 = .ok (.iconst 1, 1) := by decide +kernel
theorem dL_law_281 : decode cL_law 281 = .ok (.iadd, 1) := by decide +kernel
theorem dL_law_282 : decode cL_law 282 = .ok (.iaload, 1) := by decide +kernel
theorem dL_law_283 : decode cL_law 283 = .ok (.aload_n 0, 1) := by decide +kernel
theorem dL_law_284 : decode cL_law 284 = .ok (.iload 5, 2) := by decide +kernel
theorem dL_law_286 : decode cL_law 286 = .ok (.iconst 2, 1) := by decide +kernel
theorem dL_law_287 : decode cL_law 287 = .ok (.iadd, 1) := by decide +kernel
theorem dL_law_288 : decode cL_law 288 = .ok (.iaload, 1) := by decide +kernel
theorem dL_law_289 : decode cL_law 289 = .ok (.aload_n 3, 1) := by decide +kernel
theorem dL_law_290 : decode cL_law 290 = .ok (.invokestatic 70, 3) := by decide +kernel
theorem dL_law_293 : decode cL_law 293 = .ok (.istore 6, 2) := by decide +kernel
theorem dL_law_295 : decode cL_law 295 = .ok (.aload_n 2, 1) := by decide +kernel
theorem dL_law_296 : decode cL_law 296 = .ok (.aload_n 0, 1) := by decide +kernel
theorem dL_law_297 : decode cL_law 297 = .ok (.iload 5, 2) := by decide +kernel
theorem dL_law_299 : decode cL_law 299 = .ok (.iconst 1, 1) := by decide +kernel
theorem dL_law_300 : decode cL_law 300 = .ok (.iadd, 1) := by decide +kernel
theorem dL_law_301 : decode cL_law 301 = .ok (.iaload, 1) := by decide +kernel
theorem dL_law_302 : decode cL_law 302 = .ok (.aload_n 0, 1) := by decide +kernel
theorem dL_law_303 : decode cL_law 303 = .ok (.iload 5, 2) := by decide +kernel
theorem dL_law_305 : decode cL_law 305 = .ok (.iconst 2, 1) := by decide +kernel
theorem dL_law_306 : decode cL_law 306 = .ok (.iadd, 1) := by decide +kernel
theorem dL_law_307 : decode cL_law 307 = .ok (.iaload, 1) := by decide +kernel
theorem dL_law_308 : decode cL_law 308 = .ok (.invokevirtual 73, 3) := by decide +kernel
theorem dL_law_311 : decode cL_law 311 = .ok (.istore 7, 2) := by decide +kernel
theorem dL_law_313 : decode cL_law 313 = .ok (.aload_n 2, 1) := by decide +kernel
theorem dL_law_314 : decode cL_law 314 = .ok (.invokevirtual 43, 3) := by decide +kernel
theorem dL_law_317 : decode cL_law 317 = .ok (.iload 6, 2) := by decide +kernel
theorem dL_law_319 : decode cL_law 319 = .ok (.if_icmp .eq 5, 3) := by decide +kernel
theorem dL_law_322 : decode cL_law 322 = .ok (.iconst 0, 1) := by decide +kernel
theorem dL_law_323 : decode cL_law 323 = .ok (.ireturn, 1) := by decide +kernel
theorem dL_law_324 : decode cL_law 324 = .ok (.iload 6, 2) := by decide +kernel
theorem dL_law_326 : decode cL_law 326 = .ok (.ifCond .ne 15, 3) := by decide +kernel
theorem dL_law_329 : decode cL_law 329 = .ok (.aload_n 3, 1) := by decide +kernel
theorem dL_law_330 : decode cL_law 330 = .ok (.iconst 0, 1) := by decide +kernel
theorem dL_law_331 : decode cL_law 331 = .ok (.laload, 1) := by decide +kernel
theorem dL_law_332 : decode cL_law 332 = .ok (.iload 7, 2) := by decide +kernel
theorem dL_law_334 : decode cL_law 334 = .ok (.i2l, 1) := by decide +kernel
theorem dL_law_335 : decode cL_law 335 = .ok (.lcmp, 1) := by decide +kernel
theorem dL_law_336 : decode cL_law 336 = .ok (.ifCond .eq 5, 3) := by decide +kernel
theorem dL_law_339 : decode cL_law 339 = .ok (.iconst 0, 1) := by decide +kernel
theorem dL_law_340 : decode cL_law 340 = .ok (.ireturn, 1) := by decide +kernel
theorem dL_law_341 : decode cL_law 341 = .ok (.goto 186, 3) := by decide +kernel
theorem dL_law_344 : decode cL_law 344 = .ok (.aload_n 1, 1) := by decide +kernel
theorem dL_law_345 : decode cL_law 345 = .ok (.aload_n 0, 1) := by decide +kernel
theorem dL_law_346 : decode cL_law 346 = .ok (.iload 5, 2) := by decide +kernel
theorem dL_law_348 : decode cL_law 348 = .ok (.iconst 1, 1) := by decide +kernel
theorem dL_law_349 : decode cL_law 349 = .ok (.iadd, 1) := by decide +kernel
theorem dL_law_350 : decode cL_law 350 = .ok (.iaload, 1) := by decide +kernel
theorem dL_law_351 : decode cL_law 351 = .ok (.aload 4, 2) := by decide +kernel
theorem dL_law_353 : decode cL_law 353 = .ok (.invokestatic 74, 3) := by decide +kernel
theorem dL_law_356 : decode cL_law 356 = .ok (.istore 6, 2) := by decide +kernel
theorem dL_law_358 : decode cL_law 358 = .ok (.aload_n 2, 1) := by decide +kernel
theorem dL_law_359 : decode cL_law 359 = .ok (.aload_n 0, 1) := by decide +kernel
theorem dL_law_360 : decode cL_law 360 = .ok (.iload 5, 2) := by decide +kernel
theorem dL_law_362 : decode cL_law 362 = .ok (.iconst 1, 1) := by decide +kernel
theorem dL_law_363 : decode cL_law 363 = .ok (.iadd, 1) := by decide +kernel
theorem dL_law_364 : decode cL_law 364 = .ok (.iaload, 1) := by decide +kernel
theorem dL_law_365 : decode cL_law 365 = .ok (.invokevirtual 77, 3) := by decide +kernel
theorem dL_law_368 : decode cL_law 368 = .ok (.dstore 7, 2) := by decide +kernel
theorem dL_law_370 : decode cL_law 370 = .ok (.aload_n 2, 1) := by decide +kernel
theorem dL_law_371 : decode cL_law 371 = .ok (.invokevirtual 43, 3) := by decide +kernel
theorem dL_law_374 : decode cL_law 374 = .ok (.iload 6, 2) := by decide +kernel
theorem dL_law_376 : decode cL_law 376 = .ok (.if_icmp .eq 5, 3) := by decide +kernel
theorem dL_law_379 : decode cL_law 379 = .ok (.iconst 0, 1) := by decide +kernel
theorem dL_law_380 : decode cL_law 380 = .ok (.ireturn, 1) := by decide +kernel
theorem dL_law_381 : decode cL_law 381 = .ok (.iload 6, 2) := by decide +kernel
theorem dL_law_383 : decode cL_law 383 = .ok (.ifCond .ne 35, 3) := by decide +kernel
theorem dL_law_386 : decode cL_law 386 = .ok (.aload 4, 2) := by decide +kernel
theorem dL_law_388 : decode cL_law 388 = .ok (.iconst 0, 1) := by decide +kernel
theorem dL_law_389 : decode cL_law 389 = .ok (.daload, 1) := by decide +kernel
theorem dL_law_390 : decode cL_law 390 = .ok (.dload 7, 2) := by decide +kernel
theorem dL_law_392 : decode cL_law 392 = .ok (.dcmp .l, 1) := by decide +kernel
theorem dL_law_393 : decode cL_law 393 = .ok (.ifCond .eq 25, 3) := by decide +kernel
theorem dL_law_396 : decode cL_law 396 = .ok (.aload 4, 2) := by decide +kernel
theorem dL_law_398 : decode cL_law 398 = .ok (.iconst 0, 1) := by decide +kernel
theorem dL_law_399 : decode cL_law 399 = .ok (.daload, 1) := by decide +kernel
theorem dL_law_400 : decode cL_law 400 = .ok (.aload 4, 2) := by decide +kernel
theorem dL_law_402 : decode cL_law 402 = .ok (.iconst 0, 1) := by decide +kernel
theorem dL_law_403 : decode cL_law 403 = .ok (.daload, 1) := by decide +kernel
theorem dL_law_404 : decode cL_law 404 = .ok (.dcmp .l, 1) := by decide +kernel
theorem dL_law_405 : decode cL_law 405 = .ok (.ifCond .eq 11, 3) := by decide +kernel
theorem dL_law_408 : decode cL_law 408 = .ok (.dload 7, 2) := by decide +kernel
theorem dL_law_410 : decode cL_law 410 = .ok (.dload 7, 2) := by decide +kernel
theorem dL_law_412 : decode cL_law 412 = .ok (.dcmp .l, 1) := by decide +kernel
theorem dL_law_413 : decode cL_law 413 = .ok (.ifCond .ne 5, 3) := by decide +kernel
theorem dL_law_416 : decode cL_law 416 = .ok (.iconst 0, 1) := by decide +kernel
theorem dL_law_417 : decode cL_law 417 = .ok (.ireturn, 1) := by decide +kernel
theorem dL_law_418 : decode cL_law 418 = .ok (.goto 109, 3) := by decide +kernel
theorem dL_law_421 : decode cL_law 421 = .ok (.aload_n 1, 1) := by decide +kernel
theorem dL_law_422 : decode cL_law 422 = .ok (.invokevirtual 78, 3) := by decide +kernel
theorem dL_law_425 : decode cL_law 425 = .ok (.aload_n 2, 1) := by decide +kernel
theorem dL_law_426 : decode cL_law 426 = .ok (.invokevirtual 81, 3) := by decide +kernel
theorem dL_law_429 : decode cL_law 429 = .ok (.if_icmp .eq 98, 3) := by decide +kernel
theorem dL_law_432 : decode cL_law 432 = .ok (.iconst 0, 1) := by decide +kernel
theorem dL_law_433 : decode cL_law 433 = .ok (.ireturn, 1) := by decide +kernel
theorem dL_law_434 : decode cL_law 434 = .ok (.aload_n 1, 1) := by decide +kernel
theorem dL_law_435 : decode cL_law 435 = .ok (.invokevirtual 82, 3) := by decide +kernel
theorem dL_law_438 : decode cL_law 438 = .ok (.aload_n 2, 1) := by decide +kernel
theorem dL_law_439 : decode cL_law 439 = .ok (.invokevirtual 85, 3) := by decide +kernel
theorem dL_law_442 : decode cL_law 442 = .ok (.if_icmp .eq 85, 3) := by decide +kernel
theorem dL_law_445 : decode cL_law 445 = .ok (.iconst 0, 1) := by decide +kernel
theorem dL_law_446 : decode cL_law 446 = .ok (.ireturn, 1) := by decide +kernel
theorem dL_law_447 : decode cL_law 447 = .ok (.aload_n 1, 1) := by decide +kernel
theorem dL_law_448 : decode cL_law 448 = .ok (.invokevirtual 86, 3) := by decide +kernel
theorem dL_law_451 : decode cL_law 451 = .ok (.aload_n 2, 1) := by decide +kernel
theorem dL_law_452 : decode cL_law 452 = .ok (.invokevirtual 89, 3) := by decide +kernel
theorem dL_law_455 : decode cL_law 455 = .ok (.if_icmp .eq 72, 3) := by decide +kernel
theorem dL_law_458 : decode cL_law 458 = .ok (.iconst 0, 1) := by decide +kernel
theorem dL_law_459 : decode cL_law 459 = .ok (.ireturn, 1) := by decide +kernel
theorem dL_law_460 : decode cL_law 460 = .ok (.aload_n 1, 1) := by decide +kernel
theorem dL_law_461 : decode cL_law 461 = .ok (.aload_n 0, 1) := by decide +kernel
theorem dL_law_462 : decode cL_law 462 = .ok (.iload 5, 2) := by decide +kernel
theorem dL_law_464 : decode cL_law 464 = .ok (.iconst 1, 1) := by decide +kernel
theorem dL_law_465 : decode cL_law 465 = .ok (.iadd, 1) := by decide +kernel
theorem dL_law_466 : decode cL_law 466 = .ok (.iaload, 1) := by decide +kernel
theorem dL_law_467 : decode cL_law 467 = .ok (.aload_n 3, 1) := by decide +kernel
theorem dL_law_468 : decode cL_law 468 = .ok (.invokestatic 90, 3) := by decide +kernel
theorem dL_law_471 : decode cL_law 471 = .ok (.istore 6, 2) := by decide +kernel
theorem dL_law_473 : decode cL_law 473 = .ok (.aload_n 2, 1) := by decide +kernel
theorem dL_law_474 : decode cL_law 474 = .ok (.aload_n 0, 1) := by decide +kernel
theorem dL_law_475 : decode cL_law 475 = .ok (.iload 5, 2) := by decide +kernel
theorem dL_law_477 : decode cL_law 477 = .ok (.iconst 1, 1) := by decide +kernel
theorem dL_law_478 : decode cL_law 478 = .ok (.iadd, 1) := by decide +kernel
theorem dL_law_479 : decode cL_law 479 = .ok (.iaload, 1) := by decide +kernel
theorem dL_law_480 : decode cL_law 480 = .ok (.invokevirtual 93, 3) := by decide +kernel
theorem dL_law_483 : decode cL_law 483 = .ok (.istore 7, 2) := by decide +kernel
theorem dL_law_485 : decode cL_law 485 = .ok (.aload_n 2, 1) := by decide +kernel
theorem dL_law_486 : decode cL_law 486 = .ok (.invokevirtual 43, 3) := by decide +kernel
theorem dL_law_489 : decode cL_law 489 = .ok (.iload 6, 2) := by decide +kernel
theorem dL_law_491 : decode cL_law 491 = .ok (.if_icmp .eq 5, 3) := by decide +kernel
theorem dL_law_494 : decode cL_law 494 = .ok (.iconst 0, 1) := by decide +kernel
theorem dL_law_495 : decode cL_law 495 = .ok (.ireturn, 1) := by decide +kernel
theorem dL_law_496 : decode cL_law 496 = .ok (.iload 6, 2) := by decide +kernel
theorem dL_law_498 : decode cL_law 498 = .ok (.ifCond .ne 15, 3) := by decide +kernel
theorem dL_law_501 : decode cL_law 501 = .ok (.aload_n 3, 1) := by decide +kernel
theorem dL_law_502 : decode cL_law 502 = .ok (.iconst 0, 1) := by decide +kernel
theorem dL_law_503 : decode cL_law 503 = .ok (.laload, 1) := by decide +kernel
theorem dL_law_504 : decode cL_law 504 = .ok (.iload 7, 2) := by decide +kernel
theorem dL_law_506 : decode cL_law 506 = .ok (.i2l, 1) := by decide +kernel
theorem dL_law_507 : decode cL_law 507 = .ok (.lcmp, 1) := by decide +kernel
theorem dL_law_508 : decode cL_law 508 = .ok (.ifCond .eq 5, 3) := by decide +kernel
theorem dL_law_511 : decode cL_law 511 = .ok (.iconst 0, 1) := by decide +kernel
theorem dL_law_512 : decode cL_law 512 = .ok (.ireturn, 1) := by decide +kernel
theorem dL_law_513 : decode cL_law 513 = .ok (.goto 14, 3) := by decide +kernel
theorem dL_law_516 : decode cL_law 516 = .ok (.aload_n 1, 1) := by decide +kernel
theorem dL_law_517 : decode cL_law 517 = .ok (.invokevirtual 94, 3) := by decide +kernel
theorem dL_law_520 : decode cL_law 520 = .ok (.aload_n 2, 1) := by decide +kernel
theorem dL_law_521 : decode cL_law 521 = .ok (.invokevirtual 97, 3) := by decide +kernel
theorem dL_law_524 : decode cL_law 524 = .ok (.goto 3, 3) := by decide +kernel
theorem dL_law_527 : decode cL_law 527 = .ok (.iinc 5 3, 3) := by decide +kernel
theorem dL_law_530 : decode cL_law 530 = .ok (.goto (-502), 3) := by decide +kernel
theorem dL_law_533 : decode cL_law 533 = .ok (.iconst 1, 1) := by decide +kernel
theorem dL_law_534 : decode cL_law 534 = .ok (.ireturn, 1) := by decide +kernel
end
section
theorem dX6_init_0 : decode cX6_init 0 = .ok (.aload_n 0, 1) := by decide +kernel
theorem dX6_init_1 : decode cX6_init 1 = .ok (.invokespecial 1, 3) := by decide +kernel
theorem dX6_init_4 : decode cX6_init 4 = .ok (.aload_n 0, 1) := by decide +kernel
theorem dX6_init_5 : decode cX6_init 5 = .ok (.sipush 3000, 3) := by decide +kernel
theorem dX6_init_8 : decode cX6_init 8 = .ok (.newarray .byte, 2) := by decide +kernel
theorem dX6_init_10 : decode cX6_init 10 = .ok (.putfield 7, 3) := by decide +kernel
theorem dX6_init_13 : decode cX6_init 13 = .ok (.aload_n 0, 1) := by decide +kernel
theorem dX6_init_14 : decode cX6_init 14 = .ok (.bipush 20, 2) := by decide +kernel
theorem dX6_init_16 : decode cX6_init 16 = .ok (.newarray .int, 2) := by decide +kernel
theorem dX6_init_18 : decode cX6_init 18 = .ok (.putfield 13, 3) := by decide +kernel
theorem dX6_init_21 : decode cX6_init 21 = .ok (.aload_n 0, 1) := by decide +kernel
theorem dX6_init_22 : decode cX6_init 22 = .ok (.bipush 10, 2) := by decide +kernel
theorem dX6_init_24 : decode cX6_init 24 = .ok (.putfield 17, 3) := by decide +kernel
theorem dX6_init_27 : decode cX6_init 27 = .ok (.aload_n 0, 1) := by decide +kernel
theorem dX6_init_28 : decode cX6_init 28 = .ok (.sipush 400, 3) := by decide +kernel
theorem dX6_init_31 : decode cX6_init 31 = .ok (.newarray .byte, 2) := by decide +kernel
theorem dX6_init_33 : decode cX6_init 33 = .ok (.putfield 21, 3) := by decide +kernel
theorem dX6_init_36 : decode cX6_init 36 = .ok (.aload_n 0, 1) := by decide +kernel
theorem dX6_init_37 : decode cX6_init 37 = .ok (.bipush 60, 2) := by decide +kernel
theorem dX6_init_39 : decode cX6_init 39 = .ok (.newarray .int, 2) := by decide +kernel
theorem dX6_init_41 : decode cX6_init 41 = .ok (.putfield 24, 3) := by decide +kernel
theorem dX6_init_44 : decode cX6_init 44 = .ok (.aload_n 0, 1) := by decide +kernel
theorem dX6_init_45 : decode cX6_init 45 = .ok (.bipush 60, 2) := by decide +kernel
theorem dX6_init_47 : decode cX6_init 47 = .ok (.newarray .double, 2) := by decide +kernel
theorem dX6_init_49 : decode cX6_init 49 = .ok (.putfield 27, 3) := by decide +kernel
theorem dX6_init_52 : decode cX6_init 52 = .ok (.aload_n 0, 1) := by decide +kernel
theorem dX6_init_53 : decode cX6_init 53 = .ok (.sipush 400, 3) := by decide +kernel
theorem dX6_init_56 : decode cX6_init 56 = .ok (.newarray .byte, 2) := by decide +kernel
theorem dX6_init_58 : decode cX6_init 58 = .ok (.putfield 31, 3) := by decide +kernel
theorem dX6_init_61 : decode cX6_init 61 = .ok (.aload_n 0, 1) := by decide +kernel
theorem dX6_init_62 : decode cX6_init 62 = .ok (.bipush 60, 2) := by decide +kernel
theorem dX6_init_64 : decode cX6_init 64 = .ok (.newarray .int, 2) := by decide +kernel
theorem dX6_init_66 : decode cX6_init 66 = .ok (.putfield 34, 3) := by decide +kernel
theorem dX6_init_69 : decode cX6_init 69 = .ok (.aload_n 0, 1) := by decide +kernel
theorem dX6_init_70 : decode cX6_init 70 = .ok (.bipush 60, 2) := by decide +kernel
theorem dX6_init_72 : decode cX6_init 72 = .ok (.newarray .double, 2) := by decide +kernel
theorem dX6_init_74 : decode cX6_init 74 = .ok (.putfield 37, 3) := by decide +kernel
theorem dX6_init_77 : decode cX6_init 77 = .ok (.aload_n 0, 1) := by decide +kernel
theorem dX6_init_78 : decode cX6_init 78 = .ok (.iconst 0, 1) := by decide +kernel
theorem dX6_init_79 : decode cX6_init 79 = .ok (.putfield 40, 3) := by decide +kernel
theorem dX6_init_82 : decode cX6_init 82 = .ok (.return_, 1) := by decide +kernel
theorem dX6_thrown_0 : decode cX6_thrown 0 = .ok (.aload_n 0, 1) := by decide +kernel
theorem dX6_thrown_1 : decode cX6_thrown 1 = .ok (.getfield 43, 3) := by decide +kernel
theorem dX6_thrown_4 : decode cX6_thrown 4 = .ok (.ireturn, 1) := by decide +kernel
theorem dX6_byteAt_0 : decode cX6_byteAt 0 = .ok (.iload_n 1, 1) := by decide +kernel
theorem dX6_byteAt_1 : decode cX6_byteAt 1 = .ok (.aload_n 0, 1) := by decide +kernel
theorem dX6_byteAt_2 : decode cX6_byteAt 2 = .ok (.getfield 40, 3) := by decide +kernel
theorem dX6_byteAt_5 : decode cX6_byteAt 5 = .ok (.if_icmp .ge 16, 3) := by decide +kernel
theorem dX6_byteAt_8 : decode cX6_byteAt 8 = .ok (.aload_n 0, 1) := by decide +kernel
theorem dX6_byteAt_9 : decode cX6_byteAt 9 = .ok (.getfield 7, 3) := by decide +kernel
theorem dX6_byteAt_12 : decode cX6_byteAt 12 = .ok (.iload_n 1, 1) := by decide +kernel
theorem dX6_byteAt_13 : decode cX6_byteAt 13 = .ok (.baload, 1) := by decide +kernel
theorem dX6_byteAt_14 : decode cX6_byteAt 14 = .ok (.sipush 255, 3) := by decide +kernel
theorem dX6_byteAt_17 : decode cX6_byteAt 17 = .ok (.iand, 1) := by decide +kernel
theorem dX6_byteAt_18 : decode cX6_byteAt 18 = .ok (.goto 4, 3) := by decide +kernel
theorem dX6_byteAt_21 : decode cX6_byteAt 21 = .ok (.iconst (-1), 1) := by decide +kernel
theorem dX6_byteAt_22 : decode cX6_byteAt 22 = .ok (.ireturn, 1) := by decide +kernel
theorem dX6_isBlank_0 : decode cX6_isBlank 0 = .ok (.iload_n 0, 1) := by decide +kernel
theorem dX6_isBlank_1 : decode cX6_isBlank 1 = .ok (.ifCond .eq 33, 3) := by decide +kernel
theorem dX6_isBlank_4 : decode cX6_isBlank 4 = .ok (.iload_n 0, 1) := by decide +kernel
theorem dX6_isBlank_5 : decode cX6_isBlank 5 = .ok (.bipush 9, 2) := by decide +kernel
theorem dX6_isBlank_7 : decode cX6_isBlank 7 = .ok (.if_icmp .eq 27, 3) := by decide +kernel
theorem dX6_isBlank_10 : decode cX6_isBlank 10 = .ok (.iload_n 0, 1) := by decide +kernel
theorem dX6_isBlank_11 : decode cX6_isBlank 11 = .ok (.bipush 10, 2) := by decide +kernel
theorem dX6_isBlank_13 : decode cX6_isBlank 13 = .ok (.if_icmp .eq 21, 3) := by decide +kernel
theorem dX6_isBlank_16 : decode cX6_isBlank 16 = .ok (.iload_n 0, 1) := by decide +kernel
theorem dX6_isBlank_17 : decode cX6_isBlank 17 = .ok (.bipush 12, 2) := by decide +kernel
theorem dX6_isBlank_19 : decode cX6_isBlank 19 = .ok (.if_icmp .eq 15, 3) := by decide +kernel
theorem dX6_isBlank_22 : decode cX6_isBlank 22 = .ok (.iload_n 0, 1) := by decide +kernel
theorem dX6_isBlank_23 : decode cX6_isBlank 23 = .ok (.bipush 13, 2) := by decide +kernel
theorem dX6_isBlank_25 : decode cX6_isBlank 25 = .ok (.if_icmp .eq 9, 3) := by decide +kernel
theorem dX6_isBlank_28 : decode cX6_isBlank 28 = .ok (.iload_n 0, 1) := by decide +kernel
theorem dX6_isBlank_29 : decode cX6_isBlank 29 = .ok (.bipush 32, 2) := by decide +kernel
theorem dX6_isBlank_31 : decode cX6_isBlank 31 = .ok (.if_icmp .ne 7, 3) := by decide +kernel
theorem dX6_isBlank_34 : decode cX6_isBlank 34 = .ok (.iconst 1, 1) := by decide +kernel
theorem dX6_isBlank_35 : decode cX6_isBlank 35 = .ok (.goto 4, 3) := by decide +kernel
theorem dX6_isBlank_38 : decode cX6_isBlank 38 = .ok (.iconst 0, 1) := by decide +kernel
theorem dX6_isBlank_39 : decode cX6_isBlank 39 = .ok (.ireturn, 1) := by decide +kernel
theorem dX6_isOwn_0 : decode cX6_isOwn 0 = .ok (.iload_n 0, 1) := by decide +kernel
theorem dX6_isOwn_1 : decode cX6_isOwn 1 = .ok (.bipush 40, 2) := by decide +kernel
theorem dX6_isOwn_3 : decode cX6_isOwn 3 = .ok (.if_icmp .eq 57, 3) := by decide +kernel
theorem dX6_isOwn_6 : decode cX6_isOwn 6 = .ok (.iload_n 0, 1) := by decide +kernel
theorem dX6_isOwn_7 : decode cX6_isOwn 7 = .ok (.bipush 41, 2) := by decide +kernel
theorem dX6_isOwn_9 : decode cX6_isOwn 9 = .ok (.if_icmp .eq 51, 3) := by decide +kernel
theorem dX6_isOwn_12 : decode cX6_isOwn 12 = .ok (.iload_n 0, 1) := by decide +kernel
theorem dX6_isOwn_13 : decode cX6_isOwn 13 = .ok (.bipush 60, 2) := by decide +kernel
theorem dX6_isOwn_15 : decode cX6_isOwn 15 = .ok (.if_icmp .eq 45, 3) := by decide +kernel
theorem dX6_isOwn_18 : decode cX6_isOwn 18 = .ok (.iload_n 0, 1) := by decide +kernel
theorem dX6_isOwn_19 : decode cX6_isOwn 19 = .ok (.bipush 62, 2) := by decide +kernel
theorem dX6_isOwn_21 : decode cX6_isOwn 21 = .ok (.if_icmp .eq 39, 3) := by decide +kernel
theorem dX6_isOwn_24 : decode cX6_isOwn 24 = .ok (.iload_n 0, 1) := by decide +kernel
theorem dX6_isOwn_25 : decode cX6_isOwn 25 = .ok (.bipush 91, 2) := by decide +kernel
theorem dX6_isOwn_27 : decode cX6_isOwn 27 = .ok (.if_icmp .eq 33, 3) := by decide +kernel
theorem dX6_isOwn_30 : decode cX6_isOwn 30 = .ok (.iload_n 0, 1) := by decide +kernel
theorem dX6_isOwn_31 : decode cX6_isOwn 31 = .ok (.bipush 93, 2) := by decide +kernel
theorem dX6_isOwn_33 : decode cX6_isOwn 33 = .ok (.if_icmp .eq 27, 3) := by decide +kernel
theorem dX6_isOwn_36 : decode cX6_isOwn 36 = .ok (.iload_n 0, 1) := by decide +kernel
theorem dX6_isOwn_37 : decode cX6_isOwn 37 = .ok (.bipush 123, 2) := by decide +kernel
theorem dX6_isOwn_39 : decode cX6_isOwn 39 = .ok (.if_icmp .eq 21, 3) := by decide +kernel
theorem dX6_isOwn_42 : decode cX6_isOwn 42 = .ok (.iload_n 0, 1) := by decide +kernel
theorem dX6_isOwn_43 : decode cX6_isOwn 43 = .ok (.bipush 125, 2) := by decide +kernel
theorem dX6_isOwn_45 : decode cX6_isOwn 45 = .ok (.if_icmp .eq 15, 3) := by decide +kernel
theorem dX6_isOwn_48 : decode cX6_isOwn 48 = .ok (.iload_n 0, 1) := by decide +kernel
theorem dX6_isOwn_49 : decode cX6_isOwn 49 = .ok (.bipush 47, 2) := by decide +kernel
theorem dX6_isOwn_51 : decode cX6_isOwn 51 = .ok (.if_icmp .eq 9, 3) := by decide +kernel
theorem dX6_isOwn_54 : decode cX6_isOwn 54 = .ok (.iload_n 0, 1) := by decide +kernel
theorem dX6_isOwn_55 : decode cX6_isOwn 55 = .ok (.bipush 37, 2) := by decide +kernel
theorem dX6_isOwn_57 : decode cX6_isOwn 57 = .ok (.if_icmp .ne 7, 3) := by decide +kernel
theorem dX6_isOwn_60 : decode cX6_isOwn 60 = .ok (.iconst 1, 1) := by decide +kernel
theorem dX6_isOwn_61 : decode cX6_isOwn 61 = .ok (.goto 4, 3) := by decide +kernel
theorem dX6_isOwn_64 : decode cX6_isOwn 64 = .ok (.iconst 0, 1) := by decide +kernel
theorem dX6_isOwn_65 : decode cX6_isOwn 65 = .ok (.ireturn, 1) := by decide +kernel
theorem dX6_isPlain_0 : decode cX6_isPlain 0 = .ok (.iload_n 0, 1) := by decide +kernel
theorem dX6_isPlain_1 : decode cX6_isPlain 1 = .ok (.sipush 159, 3) := by decide +kernel
theorem dX6_isPlain_4 : decode cX6_isPlain 4 = .ok (.if_icmp .gt 28, 3) := by decide +kernel
theorem dX6_isPlain_7 : decode cX6_isPlain 7 = .ok (.iload_n 0, 1) := by decide +kernel
theorem dX6_isPlain_8 : decode cX6_isPlain 8 = .ok (.ifCond .lt 28, 3) := by decide +kernel
theorem dX6_isPlain_11 : decode cX6_isPlain 11 = .ok (.iload_n 0, 1) := by decide +kernel
theorem dX6_isPlain_12 : decode cX6_isPlain 12 = .ok (.sipush 128, 3) := by decide +kernel
theorem dX6_isPlain_15 : decode cX6_isPlain 15 = .ok (.if_icmp .ge 21, 3) := by decide +kernel
theorem dX6_isPlain_18 : decode cX6_isPlain 18 = .ok (.iload_n 0, 1) := by decide +kernel
theorem dX6_isPlain_19 : decode cX6_isPlain 19 = .ok (.invokestatic 46, 3) := by decide +kernel
theorem dX6_isPlain_22 : decode cX6_isPlain 22 = .ok (.ifCond .ne 14, 3) := by decide +kernel
theorem dX6_isPlain_25 : decode cX6_isPlain 25 = .ok (.iload_n 0, 1) := by decide +kernel
theorem dX6_isPlain_26 : decode cX6_isPlain 26 = .ok (.invokestatic 50, 3) := by decide +kernel
theorem dX6_isPlain_29 : decode cX6_isPlain 29 = .ok (.ifCond .ne 7, 3) := by decide +kernel
theorem dX6_isPlain_32 : decode cX6_isPlain 32 = .ok (.iconst 1, 1) := by decide +kernel
theorem dX6_isPlain_33 : decode cX6_isPlain 33 = .ok (.goto 4, 3) := by decide +kernel
theorem dX6_isPlain_36 : decode cX6_isPlain 36 = .ok (.iconst 0, 1) := by decide +kernel
theorem dX6_isPlain_37 : decode cX6_isPlain 37 = .ok (.ireturn, 1) := by decide +kernel
theorem dX6_add_0 : decode cX6_add 0 = .ok (.aload_n 0, 1) := by decide +kernel
theorem dX6_add_1 : decode cX6_add 1 = .ok (.aload_n 0, 1) := by decide +kernel
theorem dX6_add_2 : decode cX6_add 2 = .ok (.getfield 53, 3) := by decide +kernel
theorem dX6_add_5 : decode cX6_add 5 = .ok (.ifCond .eq 7, 3) := by decide +kernel
theorem dX6_add_8 : decode cX6_add 8 = .ok (.iconst 1, 1) := by decide +kernel
theorem dX6_add_9 : decode cX6_add 9 = .ok (.goto 18, 3) := by decide +kernel
theorem dX6_add_12 : decode cX6_add 12 = .ok (.aload_n 0, 1) := by decide +kernel
theorem dX6_add_13 : decode cX6_add 13 = .ok (.getfield 40, 3) := by decide +kernel
theorem dX6_add_16 : decode cX6_add 16 = .ok (.sipush 3000, 3) := by decide +kernel
theorem dX6_add_19 : decode cX6_add 19 = .ok (.if_icmp .ne 7, 3) := by decide +kernel
theorem dX6_add_22 : decode cX6_add 22 = .ok (.iconst 2, 1) := by decide +kernel
theorem dX6_add_23 : decode cX6_add 23 = .ok (.goto 4, 3) := by decide +kernel
theorem dX6_add_26 : decode cX6_add 26 = .ok (.iconst 0, 1) := by decide +kernel
theorem dX6_add_27 : decode cX6_add 27 = .ok (.putfield 43, 3) := by decide +kernel
theorem dX6_add_30 : decode cX6_add 30 = .ok (.aload_n 0, 1) := by decide +kernel
theorem dX6_add_31 : decode cX6_add 31 = .ok (.getfield 43, 3) := by decide +kernel
theorem dX6_add_34 : decode cX6_add 34 = .ok (.ifCond .le 5, 3) := by decide +kernel
theorem dX6_add_37 : decode cX6_add 37 = .ok (.iconst 0, 1) := by decide +kernel
theorem dX6_add_38 : decode cX6_add 38 = .ok (.ireturn, 1) := by decide +kernel
theorem dX6_add_39 : decode cX6_add 39 = .ok (.aload_n 0, 1) := by decide +kernel
theorem dX6_add_40 : decode cX6_add 40 = .ok (.getfield 7, 3) := by decide +kernel
theorem dX6_add_43 : decode cX6_add 43 = .ok (.aload_n 0, 1) := by decide +kernel
theorem dX6_add_44 : decode cX6_add 44 = .ok (.getfield 40, 3) := by decide +kernel
theorem dX6_add_47 : decode cX6_add 47 = .ok (.iload_n 1, 1) := by decide +kernel
theorem dX6_add_48 : decode cX6_add 48 = .ok (.bastore, 1) := by decide +kernel
theorem dX6_add_49 : decode cX6_add 49 = .ok (.aload_n 0, 1) := by decide +kernel
theorem dX6_add_50 : decode cX6_add 50 = .ok (.dup, 1) := by decide +kernel
theorem dX6_add_51 : decode cX6_add 51 = .ok (.getfield 40, 3) := by decide +kernel
theorem dX6_add_54 : decode cX6_add 54 = .ok (.iconst 1, 1) := by decide +kernel
theorem dX6_add_55 : decode cX6_add 55 = .ok (.iadd, 1) := by decide +kernel
theorem dX6_add_56 : decode cX6_add 56 = .ok (.putfield 40, 3) := by decide +kernel
theorem dX6_add_59 : decode cX6_add 59 = .ok (.aload_n 0, 1) := by decide +kernel
theorem dX6_add_60 : decode cX6_add 60 = .ok (.getfield 40, 3) := by decide +kernel
theorem dX6_add_63 : decode cX6_add 63 = .ok (.ireturn, 1) := by decide +kernel
theorem dX6_end_0 : decode cX6_end 0 = .ok (.aload_n 0, 1) := by decide +kernel
theorem dX6_end_1 : decode cX6_end 1 = .ok (.iconst 0, 1) := by decide +kernel
theorem dX6_end_2 : decode cX6_end 2 = .ok (.putfield 43, 3) := by decide +kernel
theorem dX6_end_5 : decode cX6_end 5 = .ok (.aload_n 0, 1) := by decide +kernel
theorem dX6_end_6 : decode cX6_end 6 = .ok (.getfield 53, 3) := by decide +kernel
theorem dX6_end_9 : decode cX6_end 9 = .ok (.ifCond .eq 5, 3) := by decide +kernel
theorem dX6_end_12 : decode cX6_end 12 = .ok (.iconst (-1), 1) := by decide +kernel
theorem dX6_end_13 : decode cX6_end 13 = .ok (.ireturn, 1) := by decide +kernel
theorem dX6_end_14 : decode cX6_end 14 = .ok (.aload_n 0, 1) := by decide +kernel
theorem dX6_end_15 : decode cX6_end 15 = .ok (.iconst 1, 1) := by decide +kernel
theorem dX6_end_16 : decode cX6_end 16 = .ok (.putfield 53, 3) := by decide +kernel
theorem dX6_end_19 : decode cX6_end 19 = .ok (.aload_n 0, 1) := by decide +kernel
theorem dX6_end_20 : decode cX6_end 20 = .ok (.getfield 40, 3) := by decide +kernel
theorem dX6_end_23 : decode cX6_end 23 = .ok (.aload_n 0, 1) := by decide +kernel
theorem dX6_end_24 : decode cX6_end 24 = .ok (.getfield 57, 3) := by decide +kernel
theorem dX6_end_27 : decode cX6_end 27 = .ok (.isub, 1) := by decide +kernel
theorem dX6_end_28 : decode cX6_end 28 = .ok (.ireturn, 1) := by decide +kernel
theorem dX6_isDigit_0 : decode cX6_isDigit 0 = .ok (.iload_n 0, 1) := by decide +kernel
theorem dX6_isDigit_1 : decode cX6_isDigit 1 = .ok (.bipush 48, 2) := by decide +kernel
theorem dX6_isDigit_3 : decode cX6_isDigit 3 = .ok (.if_icmp .lt 13, 3) := by decide +kernel
theorem dX6_isDigit_6 : decode cX6_isDigit 6 = .ok (.iload_n 0, 1) := by decide +kernel
theorem dX6_isDigit_7 : decode cX6_isDigit 7 = .ok (.bipush 57, 2) := by decide +kernel
theorem dX6_isDigit_9 : decode cX6_isDigit 9 = .ok (.if_icmp .gt 7, 3) := by decide +kernel
theorem dX6_isDigit_12 : decode cX6_isDigit 12 = .ok (.iconst 1, 1) := by decide +kernel
theorem dX6_isDigit_13 : decode cX6_isDigit 13 = .ok (.goto 4, 3) := by decide +kernel
theorem dX6_isDigit_16 : decode cX6_isDigit 16 = .ok (.iconst 0, 1) := by decide +kernel
theorem dX6_isDigit_17 : decode cX6_isDigit 17 = .ok (.ireturn, 1) := by decide +kernel
theorem dX6_digit_0 : decode cX6_digit 0 = .ok (.iload_n 0, 1) := by decide +kernel
theorem dX6_digit_1 : decode cX6_digit 1 = .ok (.invokestatic 60, 3) := by decide +kernel
theorem dX6_digit_4 : decode cX6_digit 4 = .ok (.ifCond .eq 8, 3) := by decide +kernel
theorem dX6_digit_7 : decode cX6_digit 7 = .ok (.iload_n 0, 1) := by decide +kernel
theorem dX6_digit_8 : decode cX6_digit 8 = .ok (.bipush 48, 2) := by decide +kernel
theorem dX6_digit_10 : decode cX6_digit 10 = .ok (.isub, 1) := by decide +kernel
theorem dX6_digit_11 : decode cX6_digit 11 = .ok (.ireturn, 1) := by decide +kernel
theorem dX6_digit_12 : decode cX6_digit 12 = .ok (.iload_n 0, 1) := by decide +kernel
theorem dX6_digit_13 : decode cX6_digit 13 = .ok (.bipush 97, 2) := by decide +kernel
theorem dX6_digit_15 : decode cX6_digit 15 = .ok (.if_icmp .lt 17, 3) := by decide +kernel
theorem dX6_digit_18 : decode cX6_digit 18 = .ok (.iload_n 0, 1) := by decide +kernel
theorem dX6_digit_19 : decode cX6_digit 19 = .ok (.bipush 122, 2) := by decide +kernel
theorem dX6_digit_21 : decode cX6_digit 21 = .ok (.if_icmp .gt 11, 3) := by decide +kernel
theorem dX6_digit_24 : decode cX6_digit 24 = .ok (.iload_n 0, 1) := by decide +kernel
theorem dX6_digit_25 : decode cX6_digit 25 = .ok (.bipush 97, 2) := by decide +kernel
theorem dX6_digit_27 : decode cX6_digit 27 = .ok (.isub, 1) := by decide +kernel
theorem dX6_digit_28 : decode cX6_digit 28 = .ok (.bipush 10, 2) := by decide +kernel
theorem dX6_digit_30 : decode cX6_digit 30 = .ok (.iadd, 1) := by decide +kernel
theorem dX6_digit_31 : decode cX6_digit 31 = .ok (.ireturn, 1) := by decide +kernel
theorem dX6_digit_32 : decode cX6_digit 32 = .ok (.iload_n 0, 1) := by decide +kernel
theorem dX6_digit_33 : decode cX6_digit 33 = .ok (.bipush 65, 2) := by decide +kernel
theorem dX6_digit_35 : decode cX6_digit 35 = .ok (.if_icmp .lt 19, 3) := by decide +kernel
theorem dX6_digit_38 : decode cX6_digit 38 = .ok (.iload_n 0, 1) := by decide +kernel
theorem dX6_digit_39 : decode cX6_digit 39 = .ok (.bipush 90, 2) := by decide +kernel
theorem dX6_digit_41 : decode cX6_digit 41 = .ok (.if_icmp .gt 13, 3) := by decide +kernel
theorem dX6_digit_44 : decode cX6_digit 44 = .ok (.iload_n 0, 1) := by decide +kernel
theorem dX6_digit_45 : decode cX6_digit 45 = .ok (.bipush 65, 2) := by decide +kernel
theorem dX6_digit_47 : decode cX6_digit 47 = .ok (.isub, 1) := by decide +kernel
theorem dX6_digit_48 : decode cX6_digit 48 = .ok (.bipush 10, 2) := by decide +kernel
theorem dX6_digit_50 : decode cX6_digit 50 = .ok (.iadd, 1) := by decide +kernel
theorem dX6_digit_51 : decode cX6_digit 51 = .ok (.goto 5, 3) := by decide +kernel
theorem dX6_digit_54 : decode cX6_digit 54 = .ok (.bipush 99, 2) := by decide +kernel
theorem dX6_digit_56 : decode cX6_digit 56 = .ok (.ireturn, 1) := by decide +kernel
theorem dX6_digitsFrom_0 : decode cX6_digitsFrom 0 = .ok (.iload_n 1, 1) := by decide +kernel
theorem dX6_digitsFrom_1 : decode cX6_digitsFrom 1 = .ok (.istore_n 3, 1) := by decide +kernel
theorem dX6_digitsFrom_2 : decode cX6_digitsFrom 2 = .ok (.iload_n 3, 1) := by decide +kernel
theorem dX6_digitsFrom_3 : decode cX6_digitsFrom 3 = .ok (.iload_n 2, 1) := by decide +kernel
theorem dX6_digitsFrom_4 : decode cX6_digitsFrom 4 = .ok (.if_icmp .ge 20, 3) := by decide +kernel
theorem dX6_digitsFrom_7 : decode cX6_digitsFrom 7 = .ok (.aload_n 0, 1) := by decide +kernel
theorem dX6_digitsFrom_8 : decode cX6_digitsFrom 8 = .ok (.iload_n 3, 1) := by decide +kernel
theorem dX6_digitsFrom_9 : decode cX6_digitsFrom 9 = .ok (.invokevirtual 63, 3) := by decide +kernel
theorem dX6_digitsFrom_12 : decode cX6_digitsFrom 12 = .ok (.invokestatic 60, 3) := by decide +kernel
theorem dX6_digitsFrom_15 : decode cX6_digitsFrom 15 = .ok (.ifCond .eq 9, 3) := by decide +kernel
theorem dX6_digitsFrom_18 : decode cX6_digitsFrom 18 = .ok (.iinc 3 1, 3) := by decide +kernel
theorem dX6_digitsFrom_21 : decode cX6_digitsFrom 21 = .ok (.goto (-19), 3) := by decide +kernel
theorem dX6_digitsFrom_24 : decode cX6_digitsFrom 24 = .ok (.iload_n 3, 1) := by decide +kernel
theorem dX6_digitsFrom_25 : decode cX6_digitsFrom 25 = .ok (.iload_n 1, 1) := by decide +kernel
theorem dX6_digitsFrom_26 : decode cX6_digitsFrom 26 = .ok (.isub, 1) := by decide +kernel
theorem dX6_digitsFrom_27 : decode cX6_digitsFrom 27 = .ok (.ireturn, 1) := by decide +kernel
theorem dX6_isInteger_0 : decode cX6_isInteger 0 = .ok (.aload_n 0, 1) := by decide +kernel
theorem dX6_isInteger_1 : decode cX6_isInteger 1 = .ok (.iload_n 1, 1) := by decide +kernel
theorem dX6_isInteger_2 : decode cX6_isInteger 2 = .ok (.invokevirtual 63, 3) := by decide +kernel
theorem dX6_isInteger_5 : decode cX6_isInteger 5 = .ok (.bipush 45, 2) := by decide +kernel
theorem dX6_isInteger_7 : decode cX6_isInteger 7 = .ok (.if_icmp .ne 7, 3) := by decide +kernel
theorem dX6_isInteger_10 : decode cX6_isInteger 10 = .ok (.iconst 1, 1) := by decide +kernel
theorem dX6_isInteger_11 : decode cX6_isInteger 11 = .ok (.goto 4, 3) := by decide +kernel
theorem dX6_isInteger_14 : decode cX6_isInteger 14 = .ok (.iconst 0, 1) := by decide +kernel
theorem dX6_isInteger_15 : decode cX6_isInteger 15 = .ok (.istore_n 3, 1) := by decide +kernel
theorem dX6_isInteger_16 : decode cX6_isInteger 16 = .ok (.iload_n 3, 1) := by decide +kernel
theorem dX6_isInteger_17 : decode cX6_isInteger 17 = .ok (.ifCond .ne 13, 3) := by decide +kernel
theorem dX6_isInteger_20 : decode cX6_isInteger 20 = .ok (.aload_n 0, 1) := by decide +kernel
theorem dX6_isInteger_21 : decode cX6_isInteger 21 = .ok (.iload_n 1, 1) := by decide +kernel
theorem dX6_isInteger_22 : decode cX6_isInteger 22 = .ok (.invokevirtual 63, 3) := by decide +kernel
theorem dX6_isInteger_25 : decode cX6_isInteger 25 = .ok (.bipush 43, 2) := by decide +kernel
theorem dX6_isInteger_27 : decode cX6_isInteger 27 = .ok (.if_icmp .ne 9, 3) := by decide +kernel
theorem dX6_isInteger_30 : decode cX6_isInteger 30 = .ok (.iload_n 1, 1) := by decide +kernel
theorem dX6_isInteger_31 : decode cX6_isInteger 31 = .ok (.iconst 1, 1) := by decide +kernel
theorem dX6_isInteger_32 : decode cX6_isInteger 32 = .ok (.iadd, 1) := by decide +kernel
theorem dX6_isInteger_33 : decode cX6_isInteger 33 = .ok (.goto 4, 3) := by decide +kernel
theorem dX6_isInteger_36 : decode cX6_isInteger 36 = .ok (.iload_n 1, 1) := by decide +kernel
theorem dX6_isInteger_37 : decode cX6_isInteger 37 = .ok (.istore 4, 2) := by decide +kernel
theorem dX6_isInteger_39 : decode cX6_isInteger 39 = .ok (.iload 4, 2) := by decide +kernel
theorem dX6_isInteger_41 : decode cX6_isInteger 41 = .ok (.iload_n 2, 1) := by decide +kernel
theorem dX6_isInteger_42 : decode cX6_isInteger 42 = .ok (.if_icmp .eq 17, 3) := by decide +kernel
theorem dX6_isInteger_45 : decode cX6_isInteger 45 = .ok (.aload_n 0, 1) := by decide +kernel
theorem dX6_isInteger_46 : decode cX6_isInteger 46 = .ok (.iload 4, 2) := by decide +kernel
theorem dX6_isInteger_48 : decode cX6_isInteger 48 = .ok (.iload_n 2, 1) := by decide +kernel
theorem dX6_isInteger_49 : decode cX6_isInteger 49 = .ok (.invokevirtual 67, 3) := by decide +kernel
theorem dX6_isInteger_52 : decode cX6_isInteger 52 = .ok (.iload_n 2, 1) := by decide +kernel
theorem dX6_isInteger_53 : decode cX6_isInteger 53 = .ok (.iload 4, 2) := by decide +kernel
theorem dX6_isInteger_55 : decode cX6_isInteger 55 = .ok (.isub, 1) := by decide +kernel
theorem dX6_isInteger_56 : decode cX6_isInteger 56 = .ok (.if_icmp .eq 5, 3) := by decide +kernel
theorem dX6_isInteger_59 : decode cX6_isInteger 59 = .ok (.iconst 0, 1) := by decide +kernel
theorem dX6_isInteger_60 : decode cX6_isInteger 60 = .ok (.ireturn, 1) := by decide +kernel
theorem dX6_isInteger_61 : decode cX6_isInteger 61 = .ok (.lconst 0, 1) := by decide +kernel
theorem dX6_isInteger_62 : decode cX6_isInteger 62 = .ok (.lstore 5, 2) := by decide +kernel
theorem dX6_isInteger_64 : decode cX6_isInteger 64 = .ok (.iload 4, 2) := by decide +kernel
theorem dX6_isInteger_66 : decode cX6_isInteger 66 = .ok (.iload_n 2, 1) := by decide +kernel
theorem dX6_isInteger_67 : decode cX6_isInteger 67 = .ok (.if_icmp .ge 43, 3) := by decide +kernel
theorem dX6_isInteger_70 : decode cX6_isInteger 70 = .ok (.lload 5, 2) := by decide +kernel
theorem dX6_isInteger_72 : decode cX6_isInteger 72 = .ok (.ldc2_w 71, 3) := by decide +kernel
theorem dX6_isInteger_75 : decode cX6_isInteger 75 = .ok (.lcmp, 1) := by decide +kernel
theorem dX6_isInteger_76 : decode cX6_isInteger 76 = .ok (.ifCond .le 8, 3) := by decide +kernel
theorem dX6_isInteger_79 : decode cX6_isInteger 79 = .ok (.lload 5, 2) := by decide +kernel
theorem dX6_isInteger_81 : decode cX6_isInteger 81 = .ok (.goto 21, 3) := by decide +kernel
theorem dX6_isInteger_84 : decode cX6_isInteger 84 = .ok (.ldc2_w 73, 3) := by decide +kernel
theorem dX6_isInteger_87 : decode cX6_isInteger 87 = .ok (.lload 5, 2) := by decide +kernel
theorem dX6_isInteger_89 : decode cX6_isInteger 89 = .ok (.lmul, 1) := by decide +kernel
theorem dX6_isInteger_90 : decode cX6_isInteger 90 = .ok (.aload_n 0, 1) := by decide +kernel
theorem dX6_isInteger_91 : decode cX6_isInteger 91 = .ok (.iload 4, 2) := by decide +kernel
theorem dX6_isInteger_93 : decode cX6_isInteger 93 = .ok (.invokevirtual 63, 3) := by decide +kernel
theorem dX6_isInteger_96 : decode cX6_isInteger 96 = .ok (.i2l, 1) := by decide +kernel
theorem dX6_isInteger_97 : decode cX6_isInteger 97 = .ok (.ladd, 1) := by decide +kernel
theorem dX6_isInteger_98 : decode cX6_isInteger 98 = .ok (.ldc2_w 75, 3) := by decide +kernel
theorem dX6_isInteger_101 : decode cX6_isInteger 101 = .ok (.lsub, 1) := by decide +kernel
theorem dX6_isInteger_102 : decode cX6_isInteger 102 = .ok (.lstore 5, 2) := by decide +kernel
theorem dX6_isInteger_104 : decode cX6_isInteger 104 = .ok (.iinc 4 1, 3) := by decide +kernel
theorem dX6_isInteger_107 : decode cX6_isInteger 107 = .ok (.goto (-43), 3) := by decide +kernel
theorem dX6_isInteger_110 : decode cX6_isInteger 110 = .ok (.iload_n 3, 1) := by decide +kernel
theorem dX6_isInteger_111 : decode cX6_isInteger 111 = .ok (.ifCond .eq 9, 3) := by decide +kernel
theorem dX6_isInteger_114 : decode cX6_isInteger 114 = .ok (.lload 5, 2) := by decide +kernel
theorem dX6_isInteger_116 : decode cX6_isInteger 116 = .ok (.lneg, 1) := by decide +kernel
theorem dX6_isInteger_117 : decode cX6_isInteger 117 = .ok (.goto 5, 3) := by decide +kernel
theorem dX6_isInteger_120 : decode cX6_isInteger 120 = .ok (.lload 5, 2) := by decide +kernel
theorem dX6_isInteger_122 : decode cX6_isInteger 122 = .ok (.lstore 5, 2) := by decide +kernel
theorem dX6_isInteger_124 : decode cX6_isInteger 124 = .ok (.aload_n 0, 1) := by decide +kernel
theorem dX6_isInteger_125 : decode cX6_isInteger 125 = .ok (.lload 5, 2) := by decide +kernel
theorem dX6_isInteger_127 : decode cX6_isInteger 127 = .ok (.putfield 77, 3) := by decide +kernel
theorem dX6_isInteger_130 : decode cX6_isInteger 130 = .ok (.aload_n 0, 1) := by decide +kernel
theorem dX6_isInteger_131 : decode cX6_isInteger 131 = .ok (.bipush 10, 2) := by decide +kernel
theorem dX6_isInteger_133 : decode cX6_isInteger 133 = .ok (.putfield 81, 3) := by decide +kernel
theorem dX6_isInteger_136 : decode cX6_isInteger 136 = .ok (.lload 5, 2) := by decide +kernel
theorem dX6_isInteger_138 : decode cX6_isInteger 138 = .ok (.ldc2_w 84, 3) := by decide +kernel
theorem dX6_isInteger_141 : decode cX6_isInteger 141 = .ok (.lcmp, 1) := by decide +kernel
theorem dX6_isInteger_142 : decode cX6_isInteger 142 = .ok (.ifCond .lt 16, 3) := by decide +kernel
theorem dX6_isInteger_145 : decode cX6_isInteger 145 = .ok (.lload 5, 2) := by decide +kernel
theorem dX6_isInteger_147 : decode cX6_isInteger 147 = .ok (.ldc2_w 86, 3) := by decide +kernel
theorem dX6_isInteger_150 : decode cX6_isInteger 150 = .ok (.lcmp, 1) := by decide +kernel
theorem dX6_isInteger_151 : decode cX6_isInteger 151 = .ok (.ifCond .gt 7, 3) := by decide +kernel
theorem dX6_isInteger_154 : decode cX6_isInteger 154 = .ok (.iconst 1, 1) := by decide +kernel
theorem dX6_isInteger_155 : decode cX6_isInteger 155 = .ok (.goto 4, 3) := by decide +kernel
theorem dX6_isInteger_158 : decode cX6_isInteger 158 = .ok (.iconst 0, 1) := by decide +kernel
theorem dX6_isInteger_159 : decode cX6_isInteger 159 = .ok (.ireturn, 1) := by decide +kernel
theorem dX6_withBase_0 : decode cX6_withBase 0 = .ok (.aload_n 0, 1) := by decide +kernel
theorem dX6_withBase_1 : decode cX6_withBase 1 = .ok (.iload_n 1, 1) := by decide +kernel
theorem dX6_withBase_2 : decode cX6_withBase 2 = .ok (.iload_n 2, 1) := by decide +kernel
theorem dX6_withBase_3 : decode cX6_withBase 3 = .ok (.invokevirtual 67, 3) := by decide +kernel
theorem dX6_withBase_6 : decode cX6_withBase 6 = .ok (.istore_n 3, 1) := by decide +kernel
theorem dX6_withBase_7 : decode cX6_withBase 7 = .ok (.iload_n 3, 1) := by decide +kernel
theorem dX6_withBase_8 : decode cX6_withBase 8 = .ok (.iconst 1, 1) := by decide +kernel
theorem dX6_withBase_9 : decode cX6_withBase 9 = .ok (.if_icmp .lt 29, 3) := by decide +kernel
theorem dX6_withBase_12 : decode cX6_withBase 12 = .ok (.iload_n 3, 1) := by decide +kernel
theorem dX6_withBase_13 : decode cX6_withBase 13 = .ok (.iconst 2, 1) := by decide +kernel
theorem dX6_withBase_14 : decode cX6_withBase 14 = .ok (.if_icmp .gt 24, 3) := by decide +kernel
theorem dX6_withBase_17 : decode cX6_withBase 17 = .ok (.aload_n 0, 1) := by decide +kernel
theorem dX6_withBase_18 : decode cX6_withBase 18 = .ok (.iload_n 1, 1) := by decide +kernel
theorem dX6_withBase_19 : decode cX6_withBase 19 = .ok (.iload_n 3, 1) := by decide +kernel
theorem dX6_withBase_20 : decode cX6_withBase 20 = .ok (.iadd, 1) := by decide +kernel
theorem dX6_withBase_21 : decode cX6_withBase 21 = .ok (.invokevirtual 63, 3) := by decide +kernel
theorem dX6_withBase_24 : decode cX6_withBase 24 = .ok (.bipush 35, 2) := by decide +kernel
theorem dX6_withBase_26 : decode cX6_withBase 26 = .ok (.if_icmp .ne 12, 3) := by decide +kernel
theorem dX6_withBase_29 : decode cX6_withBase 29 = .ok (.iload_n 1, 1) := by decide +kernel
theorem dX6_withBase_30 : decode cX6_withBase 30 = .ok (.iload_n 3, 1) := by decide +kernel
theorem dX6_withBase_31 : decode cX6_withBase 31 = .ok (.iadd, 1) := by decide +kernel
theorem dX6_withBase_32 : decode cX6_withBase 32 = .ok (.iconst 1, 1) := by decide +kernel
theorem dX6_withBase_33 : decode cX6_withBase 33 = .ok (.iadd, 1) := by decide +kernel
theorem dX6_withBase_34 : decode cX6_withBase 34 = .ok (.iload_n 2, 1) := by decide +kernel
theorem dX6_withBase_35 : decode cX6_withBase 35 = .ok (.if_icmp .lt 5, 3) := by decide +kernel
theorem dX6_withBase_38 : decode cX6_withBase 38 = .ok (.iconst 0, 1) := by decide +kernel
theorem dX6_withBase_39 : decode cX6_withBase 39 = .ok (.ireturn, 1) := by decide +kernel
theorem dX6_withBase_40 : decode cX6_withBase 40 = .ok (.aload_n 0, 1) := by decide +kernel
theorem dX6_withBase_41 : decode cX6_withBase 41 = .ok (.iload_n 1, 1) := by decide +kernel
theorem dX6_withBase_42 : decode cX6_withBase 42 = .ok (.invokevirtual 63, 3) := by decide +kernel
theorem dX6_withBase_45 : decode cX6_withBase 45 = .ok (.bipush 48, 2) := by decide +kernel
theorem dX6_withBase_47 : decode cX6_withBase 47 = .ok (.isub, 1) := by decide +kernel
theorem dX6_withBase_48 : decode cX6_withBase 48 = .ok (.istore 4, 2) := by decide +kernel
theorem dX6_withBase_50 : decode cX6_withBase 50 = .ok (.iload_n 3, 1) := by decide +kernel
theorem dX6_withBase_51 : decode cX6_withBase 51 = .ok (.iconst 2, 1) := by decide +kernel
theorem dX6_withBase_52 : decode cX6_withBase 52 = .ok (.if_icmp .ne 22, 3) := by decide +kernel
theorem dX6_withBase_55 : decode cX6_withBase 55 = .ok (.bipush 10, 2) := by decide +kernel
theorem dX6_withBase_57 : decode cX6_withBase 57 = .ok (.iload 4, 2) := by decide +kernel
theorem dX6_withBase_59 : decode cX6_withBase 59 = .ok (.imul, 1) := by decide +kernel
theorem dX6_withBase_60 : decode cX6_withBase 60 = .ok (.aload_n 0, 1) := by decide +kernel
theorem dX6_withBase_61 : decode cX6_withBase 61 = .ok (.iload_n 1, 1) := by decide +kernel
theorem dX6_withBase_62 : decode cX6_withBase 62 = .ok (.iconst 1, 1) := by decide +kernel
theorem dX6_withBase_63 : decode cX6_withBase 63 = .ok (.iadd, 1) := by decide +kernel
theorem dX6_withBase_64 : decode cX6_withBase 64 = .ok (.invokevirtual 63, 3) := by decide +kernel
theorem dX6_withBase_67 : decode cX6_withBase 67 = .ok (.iadd, 1) := by decide +kernel
theorem dX6_withBase_68 : decode cX6_withBase 68 = .ok (.bipush 48, 2) := by decide +kernel
theorem dX6_withBase_70 : decode cX6_withBase 70 = .ok (.isub, 1) := by decide +kernel
theorem dX6_withBase_71 : decode cX6_withBase 71 = .ok (.goto 5, 3) := by decide +kernel
theorem dX6_withBase_74 : decode cX6_withBase 74 = .ok (.iload 4, 2) := by decide +kernel
theorem dX6_withBase_76 : decode cX6_withBase 76 = .ok (.istore 4, 2) := by decide +kernel
theorem dX6_withBase_78 : decode cX6_withBase 78 = .ok (.iload 4, 2) := by decide +kernel
theorem dX6_withBase_80 : decode cX6_withBase 80 = .ok (.iconst 2, 1) := by decide +kernel
theorem dX6_withBase_81 : decode cX6_withBase 81 = .ok (.if_icmp .lt 10, 3) := by decide +kernel
theorem dX6_withBase_84 : decode cX6_withBase 84 = .ok (.iload 4, 2) := by decide +kernel
theorem dX6_withBase_86 : decode cX6_withBase 86 = .ok (.bipush 36, 2) := by decide +kernel
theorem dX6_withBase_88 : decode cX6_withBase 88 = .ok (.if_icmp .le 5, 3) := by decide +kernel
theorem dX6_withBase_91 : decode cX6_withBase 91 = .ok (.iconst 0, 1) := by decide +kernel
theorem dX6_withBase_92 : decode cX6_withBase 92 = .ok (.ireturn, 1) := by decide +kernel
theorem dX6_withBase_93 : decode cX6_withBase 93 = .ok (.lconst 0, 1) := by decide +kernel
theorem dX6_withBase_94 : decode cX6_withBase 94 = .ok (.lstore 5, 2) := by decide +kernel
theorem dX6_withBase_96 : decode cX6_withBase 96 = .ok (.iload_n 1, 1) := by decide +kernel
theorem dX6_withBase_97 : decode cX6_withBase 97 = .ok (.iload_n 3, 1) := by decide +kernel
theorem dX6_withBase_98 : decode cX6_withBase 98 = .ok (.iadd, 1) := by decide +kernel
theorem dX6_withBase_99 : decode cX6_withBase 99 = .ok (.iconst 1, 1) := by decide +kernel
theorem dX6_withBase_100 : decode cX6_withBase 100 = .ok (.iadd, 1) := by decide +kernel
theorem dX6_withBase_101 : decode cX6_withBase 101 = .ok (.istore 7, 2) := by decide +kernel
theorem dX6_withBase_103 : decode cX6_withBase 103 = .ok (.iload 7, 2) := by decide +kernel
theorem dX6_withBase_105 : decode cX6_withBase 105 = .ok (.iload_n 2, 1) := by decide +kernel
theorem dX6_withBase_106 : decode cX6_withBase 106 = .ok (.if_icmp .ge 55, 3) := by decide +kernel
theorem dX6_withBase_109 : decode cX6_withBase 109 = .ok (.aload_n 0, 1) := by decide +kernel
theorem dX6_withBase_110 : decode cX6_withBase 110 = .ok (.iload 7, 2) := by decide +kernel
theorem dX6_withBase_112 : decode cX6_withBase 112 = .ok (.invokevirtual 63, 3) := by decide +kernel
theorem dX6_withBase_115 : decode cX6_withBase 115 = .ok (.invokestatic 88, 3) := by decide +kernel
theorem dX6_withBase_118 : decode cX6_withBase 118 = .ok (.istore 8, 2) := by decide +kernel
theorem dX6_withBase_120 : decode cX6_withBase 120 = .ok (.iload 8, 2) := by decide +kernel
theorem dX6_withBase_122 : decode cX6_withBase 122 = .ok (.iload 4, 2) := by decide +kernel
theorem dX6_withBase_124 : decode cX6_withBase 124 = .ok (.if_icmp .lt 5, 3) := by decide +kernel
theorem dX6_withBase_127 : decode cX6_withBase 127 = .ok (.iconst 0, 1) := by decide +kernel
theorem dX6_withBase_128 : decode cX6_withBase 128 = .ok (.ireturn, 1) := by decide +kernel
theorem dX6_withBase_129 : decode cX6_withBase 129 = .ok (.lload 5, 2) := by decide +kernel
theorem dX6_withBase_131 : decode cX6_withBase 131 = .ok (.ldc2_w 71, 3) := by decide +kernel
theorem dX6_withBase_134 : decode cX6_withBase 134 = .ok (.lcmp, 1) := by decide +kernel
theorem dX6_withBase_135 : decode cX6_withBase 135 = .ok (.ifCond .lt 8, 3) := by decide +kernel
theorem dX6_withBase_138 : decode cX6_withBase 138 = .ok (.lload 5, 2) := by decide +kernel
theorem dX6_withBase_140 : decode cX6_withBase 140 = .ok (.goto 13, 3) := by decide +kernel
theorem dX6_withBase_143 : decode cX6_withBase 143 = .ok (.lload 5, 2) := by decide +kernel
theorem dX6_withBase_145 : decode cX6_withBase 145 = .ok (.iload 4, 2) := by decide +kernel
theorem dX6_withBase_147 : decode cX6_withBase 147 = .ok (.i2l, 1) := by decide +kernel
theorem dX6_withBase_148 : decode cX6_withBase 148 = .ok (.lmul, 1) := by decide +kernel
theorem dX6_withBase_149 : decode cX6_withBase 149 = .ok (.iload 8, 2) := by decide +kernel
theorem dX6_withBase_151 : decode cX6_withBase 151 = .ok (.i2l, 1) := by decide +kernel
theorem dX6_withBase_152 : decode cX6_withBase 152 = .ok (.ladd, 1) := by decide +kernel
theorem dX6_withBase_153 : decode cX6_withBase 153 = .ok (.lstore 5, 2) := by decide +kernel
theorem dX6_withBase_155 : decode cX6_withBase 155 = .ok (.iinc 7 1, 3) := by decide +kernel
theorem dX6_withBase_158 : decode cX6_withBase 158 = .ok (.goto (-55), 3) := by decide +kernel
theorem dX6_withBase_161 : decode cX6_withBase 161 = .ok (.aload_n 0, 1) := by decide +kernel
theorem dX6_withBase_162 : decode cX6_withBase 162 = .ok (.lload 5, 2) := by decide +kernel
theorem dX6_withBase_164 : decode cX6_withBase 164 = .ok (.ldc2_w 86, 3) := by decide +kernel
theorem dX6_withBase_167 : decode cX6_withBase 167 = .ok (.lcmp, 1) := by decide +kernel
theorem dX6_withBase_168 : decode cX6_withBase 168 = .ok (.ifCond .le 12, 3) := by decide +kernel
theorem dX6_withBase_171 : decode cX6_withBase 171 = .ok (.lload 5, 2) := by decide +kernel
theorem dX6_withBase_173 : decode cX6_withBase 173 = .ok (.ldc2_w 71, 3) := by decide +kernel
theorem dX6_withBase_176 : decode cX6_withBase 176 = .ok (.lsub, 1) := by decide +kernel
theorem dX6_withBase_177 : decode cX6_withBase 177 = .ok (.goto 5, 3) := by decide +kernel
theorem dX6_withBase_180 : decode cX6_withBase 180 = .ok (.lload 5, 2) := by decide +kernel
theorem dX6_withBase_182 : decode cX6_withBase 182 = .ok (.putfield 77, 3) := by decide +kernel
theorem dX6_withBase_185 : decode cX6_withBase 185 = .ok (.aload_n 0, 1) := by decide +kernel
theorem dX6_withBase_186 : decode cX6_withBase 186 = .ok (.iload 4, 2) := by decide +kernel
theorem dX6_withBase_188 : decode cX6_withBase 188 = .ok (.putfield 81, 3) := by decide +kernel
theorem dX6_withBase_191 : decode cX6_withBase 191 = .ok (.lload 5, 2) := by decide +kernel
theorem dX6_withBase_193 : decode cX6_withBase 193 = .ok (.ldc2_w 71, 3) := by decide +kernel
theorem dX6_withBase_196 : decode cX6_withBase 196 = .ok (.lcmp, 1) := by decide +kernel
theorem dX6_withBase_197 : decode cX6_withBase 197 = .ok (.ifCond .lt 8, 3) := by decide +kernel
theorem dX6_withBase_200 : decode cX6_withBase 200 = .ok (.bipush (-6), 2) := by decide +kernel
theorem dX6_withBase_202 : decode cX6_withBase 202 = .ok (.goto 4, 3) := by decide +kernel
theorem dX6_withBase_205 : decode cX6_withBase 205 = .ok (.iconst 1, 1) := by decide +kernel
theorem dX6_withBase_206 : decode cX6_withBase 206 = .ok (.ireturn, 1) := by decide +kernel
theorem dX6_asReal_0 : decode cX6_asReal 0 = .ok (.aload_n 0, 1) := by decide +kernel
theorem dX6_asReal_1 : decode cX6_asReal 1 = .ok (.iload_n 1, 1) := by decide +kernel
theorem dX6_asReal_2 : decode cX6_asReal 2 = .ok (.invokevirtual 63, 3) := by decide +kernel
theorem dX6_asReal_5 : decode cX6_asReal 5 = .ok (.bipush 45, 2) := by decide +kernel
theorem dX6_asReal_7 : decode cX6_asReal 7 = .ok (.if_icmp .ne 7, 3) := by decide +kernel
theorem dX6_asReal_10 : decode cX6_asReal 10 = .ok (.iconst 1, 1) := by decide +kernel
theorem dX6_asReal_11 : decode cX6_asReal 11 = .ok (.goto 4, 3) := by decide +kernel
theorem dX6_asReal_14 : decode cX6_asReal 14 = .ok (.iconst 0, 1) := by decide +kernel
theorem dX6_asReal_15 : decode cX6_asReal 15 = .ok (.istore_n 3, 1) := by decide +kernel
theorem dX6_asReal_16 : decode cX6_asReal 16 = .ok (.iload_n 3, 1) := by decide +kernel
theorem dX6_asReal_17 : decode cX6_asReal 17 = .ok (.ifCond .ne 13, 3) := by decide +kernel
theorem dX6_asReal_20 : decode cX6_asReal 20 = .ok (.aload_n 0, 1) := by decide +kernel
theorem dX6_asReal_21 : decode cX6_asReal 21 = .ok (.iload_n 1, 1) := by decide +kernel
theorem dX6_asReal_22 : decode cX6_asReal 22 = .ok (.invokevirtual 63, 3) := by decide +kernel
theorem dX6_asReal_25 : decode cX6_asReal 25 = .ok (.bipush 43, 2) := by decide +kernel
theorem dX6_asReal_27 : decode cX6_asReal 27 = .ok (.if_icmp .ne 9, 3) := by decide +kernel
theorem dX6_asReal_30 : decode cX6_asReal 30 = .ok (.iload_n 1, 1) := by decide +kernel
theorem dX6_asReal_31 : decode cX6_asReal 31 = .ok (.iconst 1, 1) := by decide +kernel
theorem dX6_asReal_32 : decode cX6_asReal 32 = .ok (.iadd, 1) := by decide +kernel
theorem dX6_asReal_33 : decode cX6_asReal 33 = .ok (.goto 4, 3) := by decide +kernel
theorem dX6_asReal_36 : decode cX6_asReal 36 = .ok (.iload_n 1, 1) := by decide +kernel
theorem dX6_asReal_37 : decode cX6_asReal 37 = .ok (.istore 4, 2) := by decide +kernel
theorem dX6_asReal_39 : decode cX6_asReal 39 = .ok (.aload_n 0, 1) := by decide +kernel
theorem dX6_asReal_40 : decode cX6_asReal 40 = .ok (.iload 4, 2) := by decide +kernel
theorem dX6_asReal_42 : decode cX6_asReal 42 = .ok (.iload_n 2, 1) := by decide +kernel
theorem dX6_asReal_43 : decode cX6_asReal 43 = .ok (.invokevirtual 67, 3) := by decide +kernel
theorem dX6_asReal_46 : decode cX6_asReal 46 = .ok (.istore 5, 2) := by decide +kernel
theorem dX6_asReal_48 : decode cX6_asReal 48 = .ok (.dconst 0, 1) := by decide +kernel
theorem dX6_asReal_49 : decode cX6_asReal 49 = .ok (.dstore 6, 2) := by decide +kernel
theorem dX6_asReal_51 : decode cX6_asReal 51 = .ok (.iconst 0, 1) := by decide +kernel
theorem dX6_asReal_52 : decode cX6_asReal 52 = .ok (.istore 8, 2) := by decide +kernel
theorem dX6_asReal_54 : decode cX6_asReal 54 = .ok (.iload 8, 2) := by decide +kernel
theorem dX6_asReal_56 : decode cX6_asReal 56 = .ok (.iload 5, 2) := by decide +kernel
theorem dX6_asReal_58 : decode cX6_asReal 58 = .ok (.if_icmp .ge 31, 3) := by decide +kernel
theorem dX6_asReal_61 : decode cX6_asReal 61 = .ok (.dload 6, 2) := by decide +kernel
theorem dX6_asReal_63 : decode cX6_asReal 63 = .ok (.ldc2_w 91, 3) := by decide +kernel
theorem dX6_asReal_66 : decode cX6_asReal 66 = .ok (.dmul, 1) := by decide +kernel
theorem dX6_asReal_67 : decode cX6_asReal 67 = .ok (.aload_n 0, 1) := by decide +kernel
theorem dX6_asReal_68 : decode cX6_asReal 68 = .ok (.iload 4, 2) := by decide +kernel
theorem dX6_asReal_70 : decode cX6_asReal 70 = .ok (.iload 8, 2) := by decide +kernel
theorem dX6_asReal_72 : decode cX6_asReal 72 = .ok (.iadd, 1) := by decide +kernel
theorem dX6_asReal_73 : decode cX6_asReal 73 = .ok (.invokevirtual 63, 3) := by decide +kernel
theorem dX6_asReal_76 : decode cX6_asReal 76 = .ok (.bipush 48, 2) := by decide +kernel
theorem dX6_asReal_78 : decode cX6_asReal 78 = .ok (.isub, 1) := by decide +kernel
theorem dX6_asReal_79 : decode cX6_asReal 79 = .ok (.i2d, 1) := by decide +kernel
theorem dX6_asReal_80 : decode cX6_asReal 80 = .ok (.dadd, 1) := by decide +kernel
theorem dX6_asReal_81 : decode cX6_asReal 81 = .ok (.dstore 6, 2) := by decide +kernel
theorem dX6_asReal_83 : decode cX6_asReal 83 = .ok (.iinc 8 1, 3) := by decide +kernel
theorem dX6_asReal_86 : decode cX6_asReal 86 = .ok (.goto (-32), 3) := by decide +kernel
theorem dX6_asReal_89 : decode cX6_asReal 89 = .ok (.iload 4, 2) := by decide +kernel
theorem dX6_asReal_91 : decode cX6_asReal 91 = .ok (.iload 5, 2) := by decide +kernel
theorem dX6_asReal_93 : decode cX6_asReal 93 = .ok (.iadd, 1) := by decide +kernel
theorem dX6_asReal_94 : decode cX6_asReal 94 = .ok (.istore 4, 2) := by decide +kernel
theorem dX6_asReal_96 : decode cX6_asReal 96 = .ok (.iconst 0, 1) := by decide +kernel
theorem dX6_asReal_97 : decode cX6_asReal 97 = .ok (.istore 8, 2) := by decide +kernel
theorem dX6_asReal_99 : decode cX6_asReal 99 = .ok (.iload 4, 2) := by decide +kernel
theorem dX6_asReal_101 : decode cX6_asReal 101 = .ok (.iload_n 2, 1) := by decide +kernel
theorem dX6_asReal_102 : decode cX6_asReal 102 = .ok (.if_icmp .ge 71, 3) := by decide +kernel
theorem dX6_asReal_105 : decode cX6_asReal 105 = .ok (.aload_n 0, 1) := by decide +kernel
theorem dX6_asReal_106 : decode cX6_asReal 106 = .ok (.iload 4, 2) := by decide +kernel
theorem dX6_asReal_108 : decode cX6_asReal 108 = .ok (.invokevirtual 63, 3) := by decide +kernel
theorem dX6_asReal_111 : decode cX6_asReal 111 = .ok (.bipush 46, 2) := by decide +kernel
theorem dX6_asReal_113 : decode cX6_asReal 113 = .ok (.if_icmp .ne 60, 3) := by decide +kernel
theorem dX6_asReal_116 : decode cX6_asReal 116 = .ok (.iinc 4 1, 3) := by decide +kernel
theorem dX6_asReal_119 : decode cX6_asReal 119 = .ok (.aload_n 0, 1) := by decide +kernel
theorem dX6_asReal_120 : decode cX6_asReal 120 = .ok (.iload 4, 2) := by decide +kernel
theorem dX6_asReal_122 : decode cX6_asReal 122 = .ok (.iload_n 2, 1) := by decide +kernel
theorem dX6_asReal_123 : decode cX6_asReal 123 = .ok (.invokevirtual 67, 3) := by decide +kernel
theorem dX6_asReal_126 : decode cX6_asReal 126 = .ok (.istore 8, 2) := by decide +kernel
theorem dX6_asReal_128 : decode cX6_asReal 128 = .ok (.iconst 0, 1) := by decide +kernel
theorem dX6_asReal_129 : decode cX6_asReal 129 = .ok (.istore 9, 2) := by decide +kernel
theorem dX6_asReal_131 : decode cX6_asReal 131 = .ok (.iload 9, 2) := by decide +kernel
theorem dX6_asReal_133 : decode cX6_asReal 133 = .ok (.iload 8, 2) := by decide +kernel
theorem dX6_asReal_135 : decode cX6_asReal 135 = .ok (.if_icmp .ge 31, 3) := by decide +kernel
theorem dX6_asReal_138 : decode cX6_asReal 138 = .ok (.dload 6, 2) := by decide +kernel
theorem dX6_asReal_140 : decode cX6_asReal 140 = .ok (.ldc2_w 91, 3) := by decide +kernel
theorem dX6_asReal_143 : decode cX6_asReal 143 = .ok (.dmul, 1) := by decide +kernel
theorem dX6_asReal_144 : decode cX6_asReal 144 = .ok (.aload_n 0, 1) := by decide +kernel
theorem dX6_asReal_145 : decode cX6_asReal 145 = .ok (.iload 4, 2) := by decide +kernel
theorem dX6_asReal_147 : decode cX6_asReal 147 = .ok (.iload 9, 2) := by decide +kernel
theorem dX6_asReal_149 : decode cX6_asReal 149 = .ok (.iadd, 1) := by decide +kernel
theorem dX6_asReal_150 : decode cX6_asReal 150 = .ok (.invokevirtual 63, 3) := by decide +kernel
theorem dX6_asReal_153 : decode cX6_asReal 153 = .ok (.bipush 48, 2) := by decide +kernel
theorem dX6_asReal_155 : decode cX6_asReal 155 = .ok (.isub, 1) := by decide +kernel
theorem dX6_asReal_156 : decode cX6_asReal 156 = .ok (.i2d, 1) := by decide +kernel
theorem dX6_asReal_157 : decode cX6_asReal 157 = .ok (.dadd, 1) := by decide +kernel
theorem dX6_asReal_158 : decode cX6_asReal 158 = .ok (.dstore 6, 2) := by decide +kernel
theorem dX6_asReal_160 : decode cX6_asReal 160 = .ok (.iinc 9 1, 3) := by decide +kernel
theorem dX6_asReal_163 : decode cX6_asReal 163 = .ok (.goto (-32), 3) := by decide +kernel
theorem dX6_asReal_166 : decode cX6_asReal 166 = .ok (.iload 4, 2) := by decide +kernel
theorem dX6_asReal_168 : decode cX6_asReal 168 = .ok (.iload 8, 2) := by decide +kernel
theorem dX6_asReal_170 : decode cX6_asReal 170 = .ok (.iadd, 1) := by decide +kernel
theorem dX6_asReal_171 : decode cX6_asReal 171 = .ok (.istore 4, 2) := by decide +kernel
theorem dX6_asReal_173 : decode cX6_asReal 173 = .ok (.iload 5, 2) := by decide +kernel
theorem dX6_asReal_175 : decode cX6_asReal 175 = .ok (.iload 8, 2) := by decide +kernel
theorem dX6_asReal_177 : decode cX6_asReal 177 = .ok (.iadd, 1) := by decide +kernel
theorem dX6_asReal_178 : decode cX6_asReal 178 = .ok (.ifCond .ne 5, 3) := by decide +kernel
theorem dX6_asReal_181 : decode cX6_asReal 181 = .ok (.iconst 0, 1) := by decide +kernel
theorem dX6_asReal_182 : decode cX6_asReal 182 = .ok (.ireturn, 1) := by decide +kernel
theorem dX6_asReal_183 : decode cX6_asReal 183 = .ok (.iconst 0, 1) := by decide +kernel
theorem dX6_asReal_184 : decode cX6_asReal 184 = .ok (.istore 9, 2) := by decide +kernel
theorem dX6_asReal_186 : decode cX6_asReal 186 = .ok (.iload 4, 2) := by decide +kernel
theorem dX6_asReal_188 : decode cX6_asReal 188 = .ok (.iload_n 2, 1) := by decide +kernel
theorem dX6_asReal_189 : decode cX6_asReal 189 = .ok (.if_icmp .ge 166, 3) := by decide +kernel
theorem dX6_asReal_192 : decode cX6_asReal 192 = .ok (.aload_n 0, 1) := by decide +kernel
theorem dX6_asReal_193 : decode cX6_asReal 193 = .ok (.iload 4, 2) := by decide +kernel
theorem dX6_asReal_195 : decode cX6_asReal 195 = .ok (.invokevirtual 63, 3) := by decide +kernel
theorem dX6_asReal_198 : decode cX6_asReal 198 = .ok (.bipush 101, 2) := by decide +kernel
theorem dX6_asReal_200 : decode cX6_asReal 200 = .ok (.if_icmp .eq 14, 3) := by decide +kernel
theorem dX6_asReal_203 : decode cX6_asReal 203 = .ok (.aload_n 0, 1) := by decide +kernel
theorem dX6_asReal_204 : decode cX6_asReal 204 = .ok (.iload 4, 2) := by decide +kernel
theorem dX6_asReal_206 : decode cX6_asReal 206 = .ok (.invokevirtual 63, 3) := by decide +kernel
theorem dX6_asReal_209 : decode cX6_asReal 209 = .ok (.bipush 69, 2) := by decide +kernel
theorem dX6_asReal_211 : decode cX6_asReal 211 = .ok (.if_icmp .ne 144, 3) := by decide +kernel
theorem dX6_asReal_214 : decode cX6_asReal 214 = .ok (.iinc 4 1, 3) := by decide +kernel
theorem dX6_asReal_217 : decode cX6_asReal 217 = .ok (.iload 4, 2) := by decide +kernel
theorem dX6_asReal_219 : decode cX6_asReal 219 = .ok (.iload_n 2, 1) := by decide +kernel
theorem dX6_asReal_220 : decode cX6_asReal 220 = .ok (.if_icmp .ge 18, 3) := by decide +kernel
theorem dX6_asReal_223 : decode cX6_asReal 223 = .ok (.aload_n 0, 1) := by decide +kernel
theorem dX6_asReal_224 : decode cX6_asReal 224 = .ok (.iload 4, 2) := by decide +kernel
theorem dX6_asReal_226 : decode cX6_asReal 226 = .ok (.invokevirtual 63, 3) := by decide +kernel
theorem dX6_asReal_229 : decode cX6_asReal 229 = .ok (.bipush 45, 2) := by decide +kernel
theorem dX6_asReal_231 : decode cX6_asReal 231 = .ok (.if_icmp .ne 7, 3) := by decide +kernel
theorem dX6_asReal_234 : decode cX6_asReal 234 = .ok (.iconst 1, 1) := by decide +kernel
theorem dX6_asReal_235 : decode cX6_asReal 235 = .ok (.goto 4, 3) := by decide +kernel
theorem dX6_asReal_238 : decode cX6_asReal 238 = .ok (.iconst 0, 1) := by decide +kernel
theorem dX6_asReal_239 : decode cX6_asReal 239 = .ok (.istore 10, 2) := by decide +kernel
theorem dX6_asReal_241 : decode cX6_asReal 241 = .ok (.iload 10, 2) := by decide +kernel
theorem dX6_asReal_243 : decode cX6_asReal 243 = .ok (.ifCond .ne 20, 3) := by decide +kernel
theorem dX6_asReal_246 : decode cX6_asReal 246 = .ok (.iload 4, 2) := by decide +kernel
theorem dX6_asReal_248 : decode cX6_asReal 248 = .ok (.iload_n 2, 1) := by decide +kernel
theorem dX6_asReal_249 : decode cX6_asReal 249 = .ok (.if_icmp .ge 21, 3) := by decide +kernel
theorem dX6_asReal_252 : decode cX6_asReal 252 = .ok (.aload_n 0, 1) := by decide +kernel
theorem dX6_asReal_253 : decode cX6_asReal 253 = .ok (.iload 4, 2) := by decide +kernel
theorem dX6_asReal_255 : decode cX6_asReal 255 = .ok (.invokevirtual 63, 3) := by decide +kernel
theorem dX6_asReal_258 : decode cX6_asReal 258 = .ok (.bipush 43, 2) := by decide +kernel
theorem dX6_asReal_260 : decode cX6_asReal 260 = .ok (.if_icmp .ne 10, 3) := by decide +kernel
theorem dX6_asReal_263 : decode cX6_asReal 263 = .ok (.iload 4, 2) := by decide +kernel
theorem dX6_asReal_265 : decode cX6_asReal 265 = .ok (.iconst 1, 1) := by decide +kernel
theorem dX6_asReal_266 : decode cX6_asReal 266 = .ok (.iadd, 1) := by decide +kernel
theorem dX6_asReal_267 : decode cX6_asReal 267 = .ok (.goto 5, 3) := by decide +kernel
theorem dX6_asReal_270 : decode cX6_asReal 270 = .ok (.iload 4, 2) := by decide +kernel
theorem dX6_asReal_272 : decode cX6_asReal 272 = .ok (.istore 4, 2) := by decide +kernel
theorem dX6_asReal_274 : decode cX6_asReal 274 = .ok (.aload_n 0, 1) := by decide +kernel
theorem dX6_asReal_275 : decode cX6_asReal 275 = .ok (.iload 4, 2) := by decide +kernel
theorem dX6_asReal_277 : decode cX6_asReal 277 = .ok (.iload_n 2, 1) := by decide +kernel
theorem dX6_asReal_278 : decode cX6_asReal 278 = .ok (.invokevirtual 67, 3) := by decide +kernel
theorem dX6_asReal_281 : decode cX6_asReal 281 = .ok (.istore 11, 2) := by decide +kernel
theorem dX6_asReal_283 : decode cX6_asReal 283 = .ok (.iload 11, 2) := by decide +kernel
theorem dX6_asReal_285 : decode cX6_asReal 285 = .ok (.iconst 1, 1) := by decide +kernel
theorem dX6_asReal_286 : decode cX6_asReal 286 = .ok (.if_icmp .lt 9, 3) := by decide +kernel
theorem dX6_asReal_289 : decode cX6_asReal 289 = .ok (.iload 11, 2) := by decide +kernel
theorem dX6_asReal_291 : decode cX6_asReal 291 = .ok (.iconst 3, 1) := by decide +kernel
theorem dX6_asReal_292 : decode cX6_asReal 292 = .ok (.if_icmp .le 5, 3) := by decide +kernel
theorem dX6_asReal_295 : decode cX6_asReal 295 = .ok (.iconst 0, 1) := by decide +kernel
theorem dX6_asReal_296 : decode cX6_asReal 296 = .ok (.ireturn, 1) := by decide +kernel
theorem dX6_asReal_297 : decode cX6_asReal 297 = .ok (.iconst 0, 1) := by decide +kernel
theorem dX6_asReal_298 : decode cX6_asReal 298 = .ok (.istore 12, 2) := by decide +kernel
theorem dX6_asReal_300 : decode cX6_asReal 300 = .ok (.iload 12, 2) := by decide +kernel
theorem dX6_asReal_302 : decode cX6_asReal 302 = .ok (.iload 11, 2) := by decide +kernel
theorem dX6_asReal_304 : decode cX6_asReal 304 = .ok (.if_icmp .ge 29, 3) := by decide +kernel
theorem dX6_asReal_307 : decode cX6_asReal 307 = .ok (.bipush 10, 2) := by decide +kernel
theorem dX6_asReal_309 : decode cX6_asReal 309 = .ok (.iload 9, 2) := by decide +kernel
theorem dX6_asReal_311 : decode cX6_asReal 311 = .ok (.imul, 1) := by decide +kernel
theorem dX6_asReal_312 : decode cX6_asReal 312 = .ok (.aload_n 0, 1) := by decide +kernel
theorem dX6_asReal_313 : decode cX6_asReal 313 = .ok (.iload 4, 2) := by decide +kernel
theorem dX6_asReal_315 : decode cX6_asReal 315 = .ok (.iload 12, 2) := by decide +kernel
theorem dX6_asReal_317 : decode cX6_asReal 317 = .ok (.iadd, 1) := by decide +kernel
theorem dX6_asReal_318 : decode cX6_asReal 318 = .ok (.invokevirtual 63, 3) := by decide +kernel
theorem dX6_asReal_321 : decode cX6_asReal 321 = .ok (.iadd, 1) := by decide +kernel
theorem dX6_asReal_322 : decode cX6_asReal 322 = .ok (.bipush 48, 2) := by decide +kernel
theorem dX6_asReal_324 : decode cX6_asReal 324 = .ok (.isub, 1) := by decide +kernel
theorem dX6_asReal_325 : decode cX6_asReal 325 = .ok (.istore 9, 2) := by decide +kernel
theorem dX6_asReal_327 : decode cX6_asReal 327 = .ok (.iinc 12 1, 3) := by decide +kernel
theorem dX6_asReal_330 : decode cX6_asReal 330 = .ok (.goto (-30), 3) := by decide +kernel
theorem dX6_asReal_333 : decode cX6_asReal 333 = .ok (.iload 10, 2) := by decide +kernel
theorem dX6_asReal_335 : decode cX6_asReal 335 = .ok (.ifCond .eq 9, 3) := by decide +kernel
theorem dX6_asReal_338 : decode cX6_asReal 338 = .ok (.iload 9, 2) := by decide +kernel
theorem dX6_asReal_340 : decode cX6_asReal 340 = .ok (.ineg, 1) := by decide +kernel
theorem dX6_asReal_341 : decode cX6_asReal 341 = .ok (.goto 5, 3) := by decide +kernel
theorem dX6_asReal_344 : decode cX6_asReal 344 = .ok (.iload 9, 2) := by decide +kernel
theorem dX6_asReal_346 : decode cX6_asReal 346 = .ok (.istore 9, 2) := by decide +kernel
theorem dX6_asReal_348 : decode cX6_asReal 348 = .ok (.iload 4, 2) := by decide +kernel
theorem dX6_asReal_350 : decode cX6_asReal 350 = .ok (.iload 11, 2) := by decide +kernel
theorem dX6_asReal_352 : decode cX6_asReal 352 = .ok (.iadd, 1) := by decide +kernel
theorem dX6_asReal_353 : decode cX6_asReal 353 = .ok (.istore 4, 2) := by decide +kernel
theorem dX6_asReal_355 : decode cX6_asReal 355 = .ok (.iload 4, 2) := by decide +kernel
theorem dX6_asReal_357 : decode cX6_asReal 357 = .ok (.iload_n 2, 1) := by decide +kernel
theorem dX6_asReal_358 : decode cX6_asReal 358 = .ok (.if_icmp .eq 5, 3) := by decide +kernel
theorem dX6_asReal_361 : decode cX6_asReal 361 = .ok (.iconst 0, 1) := by decide +kernel
theorem dX6_asReal_362 : decode cX6_asReal 362 = .ok (.ireturn, 1) := by decide +kernel
theorem dX6_asReal_363 : decode cX6_asReal 363 = .ok (.iload 9, 2) := by decide +kernel
theorem dX6_asReal_365 : decode cX6_asReal 365 = .ok (.iload 8, 2) := by decide +kernel
theorem dX6_asReal_367 : decode cX6_asReal 367 = .ok (.isub, 1) := by decide +kernel
theorem dX6_asReal_368 : decode cX6_asReal 368 = .ok (.istore 9, 2) := by decide +kernel
theorem dX6_asReal_370 : decode cX6_asReal 370 = .ok (.iconst 0, 1) := by decide +kernel
theorem dX6_asReal_371 : decode cX6_asReal 371 = .ok (.istore 10, 2) := by decide +kernel
theorem dX6_asReal_373 : decode cX6_asReal 373 = .ok (.iload 10, 2) := by decide +kernel
theorem dX6_asReal_375 : decode cX6_asReal 375 = .ok (.iload 9, 2) := by decide +kernel
theorem dX6_asReal_377 : decode cX6_asReal 377 = .ok (.if_icmp .ge 17, 3) := by decide +kernel
theorem dX6_asReal_380 : decode cX6_asReal 380 = .ok (.dload 6, 2) := by decide +kernel
theorem dX6_asReal_382 : decode cX6_asReal 382 = .ok (.ldc2_w 91, 3) := by decide +kernel
theorem dX6_asReal_385 : decode cX6_asReal 385 = .ok (.dmul, 1) := by decide +kernel
theorem dX6_asReal_386 : decode cX6_asReal 386 = .ok (.dstore 6, 2) := by decide +kernel
theorem dX6_asReal_388 : decode cX6_asReal 388 = .ok (.iinc 10 1, 3) := by decide +kernel
theorem dX6_asReal_391 : decode cX6_asReal 391 = .ok (.goto (-18), 3) := by decide +kernel
theorem dX6_asReal_394 : decode cX6_asReal 394 = .ok (.iconst 0, 1) := by decide +kernel
theorem dX6_asReal_395 : decode cX6_asReal 395 = .ok (.istore 10, 2) := by decide +kernel
theorem dX6_asReal_397 : decode cX6_asReal 397 = .ok (.iload 10, 2) := by decide +kernel
theorem dX6_asReal_399 : decode cX6_asReal 399 = .ok (.iload 9, 2) := by decide +kernel
theorem dX6_asReal_401 : decode cX6_asReal 401 = .ok (.if_icmp .le 17, 3) := by decide +kernel
theorem dX6_asReal_404 : decode cX6_asReal 404 = .ok (.dload 6, 2) := by decide +kernel
theorem dX6_asReal_406 : decode cX6_asReal 406 = .ok (.ldc2_w 91, 3) := by decide +kernel
theorem dX6_asReal_409 : decode cX6_asReal 409 = .ok (.ddiv, 1) := by decide +kernel
theorem dX6_asReal_410 : decode cX6_asReal 410 = .ok (.dstore 6, 2) := by decide +kernel
theorem dX6_asReal_412 : decode cX6_asReal 412 = .ok (.iinc 10 (-1), 3) := by decide +kernel
theorem dX6_asReal_415 : decode cX6_asReal 415 = .ok (.goto (-18), 3) := by decide +kernel
theorem dX6_asReal_418 : decode cX6_asReal 418 = .ok (.aload_n 0, 1) := by decide +kernel
theorem dX6_asReal_419 : decode cX6_asReal 419 = .ok (.iload_n 3, 1) := by decide +kernel
theorem dX6_asReal_420 : decode cX6_asReal 420 = .ok (.ifCond .eq 10, 3) := by decide +kernel
theorem dX6_asReal_423 : decode cX6_asReal 423 = .ok (.dconst 0, 1) := by decide +kernel
theorem dX6_asReal_424 : decode cX6_asReal 424 = .ok (.dload 6, 2) := by decide +kernel
theorem dX6_asReal_426 : decode cX6_asReal 426 = .ok (.dsub, 1) := by decide +kernel
theorem dX6_asReal_427 : decode cX6_asReal 427 = .ok (.goto 5, 3) := by decide +kernel
theorem dX6_asReal_430 : decode cX6_asReal 430 = .ok (.dload 6, 2) := by decide +kernel
theorem dX6_asReal_432 : decode cX6_asReal 432 = .ok (.putfield 93, 3) := by decide +kernel
theorem dX6_asReal_435 : decode cX6_asReal 435 = .ok (.dload 6, 2) := by decide +kernel
theorem dX6_asReal_437 : decode cX6_asReal 437 = .ok (.ldc2_w 97, 3) := by decide +kernel
theorem dX6_asReal_440 : decode cX6_asReal 440 = .ok (.dcmp .l, 1) := by decide +kernel
theorem dX6_asReal_441 : decode cX6_asReal 441 = .ok (.ifCond .le 8, 3) := by decide +kernel
theorem dX6_asReal_444 : decode cX6_asReal 444 = .ok (.bipush (-6), 2) := by decide +kernel
theorem dX6_asReal_446 : decode cX6_asReal 446 = .ok (.goto 4, 3) := by decide +kernel
theorem dX6_asReal_449 : decode cX6_asReal 449 = .ok (.iconst 2, 1) := by decide +kernel
theorem dX6_asReal_450 : decode cX6_asReal 450 = .ok (.ireturn, 1) := by decide +kernel
theorem dX6_word_0 : decode cX6_word 0 = .ok (.aload_n 0, 1) := by decide +kernel
theorem dX6_word_1 : decode cX6_word 1 = .ok (.iconst 0, 1) := by decide +kernel
theorem dX6_word_2 : decode cX6_word 2 = .ok (.putfield 99, 3) := by decide +kernel
theorem dX6_word_5 : decode cX6_word 5 = .ok (.iconst 0, 1) := by decide +kernel
theorem dX6_word_6 : decode cX6_word 6 = .ok (.istore_n 1, 1) := by decide +kernel
theorem dX6_word_7 : decode cX6_word 7 = .ok (.aload_n 0, 1) := by decide +kernel
theorem dX6_word_8 : decode cX6_word 8 = .ok (.aload_n 0, 1) := by decide +kernel
theorem dX6_word_9 : decode cX6_word 9 = .ok (.getfield 102, 3) := by decide +kernel
theorem dX6_word_12 : decode cX6_word 12 = .ok (.invokevirtual 63, 3) := by decide +kernel
theorem dX6_word_15 : decode cX6_word 15 = .ok (.invokestatic 105, 3) := by decide +kernel
theorem dX6_word_18 : decode cX6_word 18 = .ok (.ifCond .eq 40, 3) := by decide +kernel
theorem dX6_word_21 : decode cX6_word 21 = .ok (.iload_n 1, 1) := by decide +kernel
theorem dX6_word_22 : decode cX6_word 22 = .ok (.bipush 100, 2) := by decide +kernel
theorem dX6_word_24 : decode cX6_word 24 = .ok (.if_icmp .ge 18, 3) := by decide +kernel
theorem dX6_word_27 : decode cX6_word 27 = .ok (.aload_n 0, 1) := by decide +kernel
theorem dX6_word_28 : decode cX6_word 28 = .ok (.getfield 31, 3) := by decide +kernel
theorem dX6_word_31 : decode cX6_word 31 = .ok (.iload_n 1, 1) := by decide +kernel
theorem dX6_word_32 : decode cX6_word 32 = .ok (.aload_n 0, 1) := by decide +kernel
theorem dX6_word_33 : decode cX6_word 33 = .ok (.getfield 7, 3) := by decide +kernel
theorem dX6_word_36 : decode cX6_word 36 = .ok (.aload_n 0, 1) := by decide +kernel
theorem dX6_word_37 : decode cX6_word 37 = .ok (.getfield 102, 3) := by decide +kernel
theorem dX6_word_40 : decode cX6_word 40 = .ok (.baload, 1) := by decide +kernel
theorem dX6_word_41 : decode cX6_word 41 = .ok (.bastore, 1) := by decide +kernel
theorem dX6_word_42 : decode cX6_word 42 = .ok (.iinc 1 1, 3) := by decide +kernel
theorem dX6_word_45 : decode cX6_word 45 = .ok (.aload_n 0, 1) := by decide +kernel
theorem dX6_word_46 : decode cX6_word 46 = .ok (.dup, 1) := by decide +kernel
theorem dX6_word_47 : decode cX6_word 47 = .ok (.getfield 102, 3) := by decide +kernel
theorem dX6_word_50 : decode cX6_word 50 = .ok (.iconst 1, 1) := by decide +kernel
theorem dX6_word_51 : decode cX6_word 51 = .ok (.iadd, 1) := by decide +kernel
theorem dX6_word_52 : decode cX6_word 52 = .ok (.putfield 102, 3) := by decide +kernel
theorem dX6_word_55 : decode cX6_word 55 = .ok (.goto (-48), 3) := by decide +kernel
theorem dX6_word_58 : decode cX6_word 58 = .ok (.aload_n 0, 1) := by decide +kernel
theorem dX6_word_59 : decode cX6_word 59 = .ok (.iload_n 1, 1) := by decide +kernel
theorem dX6_word_60 : decode cX6_word 60 = .ok (.bipush 100, 2) := by decide +kernel
theorem dX6_word_62 : decode cX6_word 62 = .ok (.if_icmp .ge 7, 3) := by decide +kernel
theorem dX6_word_65 : decode cX6_word 65 = .ok (.iload_n 1, 1) := by decide +kernel
theorem dX6_word_66 : decode cX6_word 66 = .ok (.goto 5, 3) := by decide +kernel
theorem dX6_word_69 : decode cX6_word 69 = .ok (.bipush 100, 2) := by decide +kernel
theorem dX6_word_71 : decode cX6_word 71 = .ok (.putfield 99, 3) := by decide +kernel
theorem dX6_word_74 : decode cX6_word 74 = .ok (.aload_n 0, 1) := by decide +kernel
theorem dX6_word_75 : decode cX6_word 75 = .ok (.iload_n 1, 1) := by decide +kernel
theorem dX6_word_76 : decode cX6_word 76 = .ok (.i2l, 1) := by decide +kernel
theorem dX6_word_77 : decode cX6_word 77 = .ok (.putfield 77, 3) := by decide +kernel
theorem dX6_word_80 : decode cX6_word 80 = .ok (.aload_n 0, 1) := by decide +kernel
theorem dX6_word_81 : decode cX6_word 81 = .ok (.getfield 102, 3) := by decide +kernel
theorem dX6_word_84 : decode cX6_word 84 = .ok (.aload_n 0, 1) := by decide +kernel
theorem dX6_word_85 : decode cX6_word 85 = .ok (.getfield 40, 3) := by decide +kernel
theorem dX6_word_88 : decode cX6_word 88 = .ok (.if_icmp .ne 14, 3) := by decide +kernel
theorem dX6_word_91 : decode cX6_word 91 = .ok (.aload_n 0, 1) := by decide +kernel
theorem dX6_word_92 : decode cX6_word 92 = .ok (.getfield 53, 3) := by decide +kernel
theorem dX6_word_95 : decode cX6_word 95 = .ok (.ifCond .ne 7, 3) := by decide +kernel
theorem dX6_word_98 : decode cX6_word 98 = .ok (.iconst 0, 1) := by decide +kernel
theorem dX6_word_99 : decode cX6_word 99 = .ok (.goto 15, 3) := by decide +kernel
theorem dX6_word_102 : decode cX6_word 102 = .ok (.iload_n 1, 1) := by decide +kernel
theorem dX6_word_103 : decode cX6_word 103 = .ok (.bipush 100, 2) := by decide +kernel
theorem dX6_word_105 : decode cX6_word 105 = .ok (.if_icmp .le 8, 3) := by decide +kernel
theorem dX6_word_108 : decode cX6_word 108 = .ok (.bipush (-2), 2) := by decide +kernel
theorem dX6_word_110 : decode cX6_word 110 = .ok (.goto 4, 3) := by decide +kernel
theorem dX6_word_113 : decode cX6_word 113 = .ok (.iconst 1, 1) := by decide +kernel
theorem dX6_word_114 : decode cX6_word 114 = .ok (.ireturn, 1) := by decide +kernel
theorem dX6_anyWord_0 : decode cX6_anyWord 0 = .ok (.aload_n 0, 1) := by decide +kernel
theorem dX6_anyWord_1 : decode cX6_anyWord 1 = .ok (.getfield 102, 3) := by decide +kernel
theorem dX6_anyWord_4 : decode cX6_anyWord 4 = .ok (.istore_n 1, 1) := by decide +kernel
theorem dX6_anyWord_5 : decode cX6_anyWord 5 = .ok (.aload_n 0, 1) := by decide +kernel
theorem dX6_anyWord_6 : decode cX6_anyWord 6 = .ok (.invokevirtual 108, 3) := by decide +kernel
theorem dX6_anyWord_9 : decode cX6_anyWord 9 = .ok (.istore_n 2, 1) := by decide +kernel
theorem dX6_anyWord_10 : decode cX6_anyWord 10 = .ok (.iload_n 2, 1) := by decide +kernel
theorem dX6_anyWord_11 : decode cX6_anyWord 11 = .ok (.iconst 1, 1) := by decide +kernel
theorem dX6_anyWord_12 : decode cX6_anyWord 12 = .ok (.if_icmp .eq 5, 3) := by decide +kernel
theorem dX6_anyWord_15 : decode cX6_anyWord 15 = .ok (.iload_n 2, 1) := by decide +kernel
theorem dX6_anyWord_16 : decode cX6_anyWord 16 = .ok (.ireturn, 1) := by decide +kernel
theorem dX6_anyWord_17 : decode cX6_anyWord 17 = .ok (.aload_n 0, 1) := by decide +kernel
theorem dX6_anyWord_18 : decode cX6_anyWord 18 = .ok (.getfield 99, 3) := by decide +kernel
theorem dX6_anyWord_21 : decode cX6_anyWord 21 = .ok (.istore_n 3, 1) := by decide +kernel
theorem dX6_anyWord_22 : decode cX6_anyWord 22 = .ok (.aload_n 0, 1) := by decide +kernel
theorem dX6_anyWord_23 : decode cX6_anyWord 23 = .ok (.iload_n 1, 1) := by decide +kernel
theorem dX6_anyWord_24 : decode cX6_anyWord 24 = .ok (.aload_n 0, 1) := by decide +kernel
theorem dX6_anyWord_25 : decode cX6_anyWord 25 = .ok (.getfield 102, 3) := by decide +kernel
theorem dX6_anyWord_28 : decode cX6_anyWord 28 = .ok (.invokevirtual 112, 3) := by decide +kernel
theorem dX6_anyWord_31 : decode cX6_anyWord 31 = .ok (.ifCond .eq 5, 3) := by decide +kernel
theorem dX6_anyWord_34 : decode cX6_anyWord 34 = .ok (.iconst 1, 1) := by decide +kernel
theorem dX6_anyWord_35 : decode cX6_anyWord 35 = .ok (.ireturn, 1) := by decide +kernel
theorem dX6_anyWord_36 : decode cX6_anyWord 36 = .ok (.aload_n 0, 1) := by decide +kernel
theorem dX6_anyWord_37 : decode cX6_anyWord 37 = .ok (.iload_n 1, 1) := by decide +kernel
theorem dX6_anyWord_38 : decode cX6_anyWord 38 = .ok (.aload_n 0, 1) := by decide +kernel
theorem dX6_anyWord_39 : decode cX6_anyWord 39 = .ok (.getfield 102, 3) := by decide +kernel
theorem dX6_anyWord_42 : decode cX6_anyWord 42 = .ok (.invokevirtual 116, 3) := by decide +kernel
theorem dX6_anyWord_45 : decode cX6_anyWord 45 = .ok (.istore 4, 2) := by decide +kernel
theorem dX6_anyWord_47 : decode cX6_anyWord 47 = .ok (.iload 4, 2) := by decide +kernel
theorem dX6_anyWord_49 : decode cX6_anyWord 49 = .ok (.ifCond .eq 6, 3) := by decide +kernel
theorem dX6_anyWord_52 : decode cX6_anyWord 52 = .ok (.iload 4, 2) := by decide +kernel
theorem dX6_anyWord_54 : decode cX6_anyWord 54 = .ok (.ireturn, 1) := by decide +kernel
theorem dX6_anyWord_55 : decode cX6_anyWord 55 = .ok (.aload_n 0, 1) := by decide +kernel
theorem dX6_anyWord_56 : decode cX6_anyWord 56 = .ok (.iload_n 1, 1) := by decide +kernel
theorem dX6_anyWord_57 : decode cX6_anyWord 57 = .ok (.aload_n 0, 1) := by decide +kernel
theorem dX6_anyWord_58 : decode cX6_anyWord 58 = .ok (.getfield 102, 3) := by decide +kernel
theorem dX6_anyWord_61 : decode cX6_anyWord 61 = .ok (.invokevirtual 119, 3) := by decide +kernel
theorem dX6_anyWord_64 : decode cX6_anyWord 64 = .ok (.istore 4, 2) := by decide +kernel
theorem dX6_anyWord_66 : decode cX6_anyWord 66 = .ok (.iload 4, 2) := by decide +kernel
theorem dX6_anyWord_68 : decode cX6_anyWord 68 = .ok (.ifCond .eq 6, 3) := by decide +kernel
theorem dX6_anyWord_71 : decode cX6_anyWord 71 = .ok (.iload 4, 2) := by decide +kernel
theorem dX6_anyWord_73 : decode cX6_anyWord 73 = .ok (.ireturn, 1) := by decide +kernel
theorem dX6_anyWord_74 : decode cX6_anyWord 74 = .ok (.aload_n 0, 1) := by decide +kernel
theorem dX6_anyWord_75 : decode cX6_anyWord 75 = .ok (.iload_n 3, 1) := by decide +kernel
theorem dX6_anyWord_76 : decode cX6_anyWord 76 = .ok (.i2l, 1) := by decide +kernel
theorem dX6_anyWord_77 : decode cX6_anyWord 77 = .ok (.putfield 77, 3) := by decide +kernel
theorem dX6_anyWord_80 : decode cX6_anyWord 80 = .ok (.iconst 3, 1) := by decide +kernel
theorem dX6_anyWord_81 : decode cX6_anyWord 81 = .ok (.ireturn, 1) := by decide +kernel
theorem dX6_slashed_0 : decode cX6_slashed 0 = .ok (.aload_n 0, 1) := by decide +kernel
theorem dX6_slashed_1 : decode cX6_slashed 1 = .ok (.dup, 1) := by decide +kernel
theorem dX6_slashed_2 : decode cX6_slashed 2 = .ok (.getfield 102, 3) := by decide +kernel
theorem dX6_slashed_5 : decode cX6_slashed 5 = .ok (.iconst 1, 1) := by decide +kernel
theorem dX6_slashed_6 : decode cX6_slashed 6 = .ok (.iadd, 1) := by decide +kernel
theorem dX6_slashed_7 : decode cX6_slashed 7 = .ok (.putfield 102, 3) := by decide +kernel
theorem dX6_slashed_10 : decode cX6_slashed 10 = .ok (.aload_n 0, 1) := by decide +kernel
theorem dX6_slashed_11 : decode cX6_slashed 11 = .ok (.getfield 102, 3) := by decide +kernel
theorem dX6_slashed_14 : decode cX6_slashed 14 = .ok (.aload_n 0, 1) := by decide +kernel
theorem dX6_slashed_15 : decode cX6_slashed 15 = .ok (.getfield 40, 3) := by decide +kernel
theorem dX6_slashed_18 : decode cX6_slashed 18 = .ok (.if_icmp .ne 12, 3) := by decide +kernel
theorem dX6_slashed_21 : decode cX6_slashed 21 = .ok (.aload_n 0, 1) := by decide +kernel
theorem dX6_slashed_22 : decode cX6_slashed 22 = .ok (.getfield 53, 3) := by decide +kernel
theorem dX6_slashed_25 : decode cX6_slashed 25 = .ok (.ifCond .ne 5, 3) := by decide +kernel
theorem dX6_slashed_28 : decode cX6_slashed 28 = .ok (.iconst 0, 1) := by decide +kernel
theorem dX6_slashed_29 : decode cX6_slashed 29 = .ok (.ireturn, 1) := by decide +kernel
theorem dX6_slashed_30 : decode cX6_slashed 30 = .ok (.aload_n 0, 1) := by decide +kernel
theorem dX6_slashed_31 : decode cX6_slashed 31 = .ok (.aload_n 0, 1) := by decide +kernel
theorem dX6_slashed_32 : decode cX6_slashed 32 = .ok (.getfield 102, 3) := by decide +kernel
theorem dX6_slashed_35 : decode cX6_slashed 35 = .ok (.invokevirtual 63, 3) := by decide +kernel
theorem dX6_slashed_38 : decode cX6_slashed 38 = .ok (.bipush 47, 2) := by decide +kernel
theorem dX6_slashed_40 : decode cX6_slashed 40 = .ok (.if_icmp .ne 7, 3) := by decide +kernel
theorem dX6_slashed_43 : decode cX6_slashed 43 = .ok (.iconst 1, 1) := by decide +kernel
theorem dX6_slashed_44 : decode cX6_slashed 44 = .ok (.goto 4, 3) := by decide +kernel
theorem dX6_slashed_47 : decode cX6_slashed 47 = .ok (.iconst 0, 1) := by decide +kernel
theorem dX6_slashed_48 : decode cX6_slashed 48 = .ok (.istore_n 1, 1) := by decide +kernel
theorem dX6_slashed_49 : decode cX6_slashed 49 = .ok (.aload_n 0, 1) := by decide +kernel
theorem dX6_slashed_50 : decode cX6_slashed 50 = .ok (.iload_n 1, 1) := by decide +kernel
theorem dX6_slashed_51 : decode cX6_slashed 51 = .ok (.ifCond .eq 12, 3) := by decide +kernel
theorem dX6_slashed_54 : decode cX6_slashed 54 = .ok (.aload_n 0, 1) := by decide +kernel
theorem dX6_slashed_55 : decode cX6_slashed 55 = .ok (.getfield 102, 3) := by decide +kernel
theorem dX6_slashed_58 : decode cX6_slashed 58 = .ok (.iconst 1, 1) := by decide +kernel
theorem dX6_slashed_59 : decode cX6_slashed 59 = .ok (.iadd, 1) := by decide +kernel
theorem dX6_slashed_60 : decode cX6_slashed 60 = .ok (.goto 7, 3) := by decide +kernel
theorem dX6_slashed_63 : decode cX6_slashed 63 = .ok (.aload_n 0, 1) := by decide +kernel
theorem dX6_slashed_64 : decode cX6_slashed 64 = .ok (.getfield 102, 3) := by decide +kernel
theorem dX6_slashed_67 : decode cX6_slashed 67 = .ok (.putfield 102, 3) := by decide +kernel
theorem dX6_slashed_70 : decode cX6_slashed 70 = .ok (.aload_n 0, 1) := by decide +kernel
theorem dX6_slashed_71 : decode cX6_slashed 71 = .ok (.invokevirtual 108, 3) := by decide +kernel
theorem dX6_slashed_74 : decode cX6_slashed 74 = .ok (.istore_n 2, 1) := by decide +kernel
theorem dX6_slashed_75 : decode cX6_slashed 75 = .ok (.iload_n 2, 1) := by decide +kernel
theorem dX6_slashed_76 : decode cX6_slashed 76 = .ok (.iconst 1, 1) := by decide +kernel
theorem dX6_slashed_77 : decode cX6_slashed 77 = .ok (.if_icmp .ne 15, 3) := by decide +kernel
theorem dX6_slashed_80 : decode cX6_slashed 80 = .ok (.iload_n 1, 1) := by decide +kernel
theorem dX6_slashed_81 : decode cX6_slashed 81 = .ok (.ifCond .eq 7, 3) := by decide +kernel
theorem dX6_slashed_84 : decode cX6_slashed 84 = .ok (.iconst 5, 1) := by decide +kernel
theorem dX6_slashed_85 : decode cX6_slashed 85 = .ok (.goto 8, 3) := by decide +kernel
theorem dX6_slashed_88 : decode cX6_slashed 88 = .ok (.iconst 4, 1) := by decide +kernel
theorem dX6_slashed_89 : decode cX6_slashed 89 = .ok (.goto 4, 3) := by decide +kernel
theorem dX6_slashed_92 : decode cX6_slashed 92 = .ok (.iload_n 2, 1) := by decide +kernel
theorem dX6_slashed_93 : decode cX6_slashed 93 = .ok (.ireturn, 1) := by decide +kernel
theorem dX6_putSign_0 : decode cX6_putSign 0 = .ok (.aload_n 0, 1) := by decide +kernel
theorem dX6_putSign_1 : decode cX6_putSign 1 = .ok (.getfield 99, 3) := by decide +kernel
theorem dX6_putSign_4 : decode cX6_putSign 4 = .ok (.sipush 400, 3) := by decide +kernel
theorem dX6_putSign_7 : decode cX6_putSign 7 = .ok (.if_icmp .ge 14, 3) := by decide +kernel
theorem dX6_putSign_10 : decode cX6_putSign 10 = .ok (.aload_n 0, 1) := by decide +kernel
theorem dX6_putSign_11 : decode cX6_putSign 11 = .ok (.getfield 31, 3) := by decide +kernel
theorem dX6_putSign_14 : decode cX6_putSign 14 = .ok (.aload_n 0, 1) := by decide +kernel
theorem dX6_putSign_15 : decode cX6_putSign 15 = .ok (.getfield 99, 3) := by decide +kernel
theorem dX6_putSign_18 : decode cX6_putSign 18 = .ok (.iload_n 1, 1) := by decide +kernel
theorem dX6_putSign_19 : decode cX6_putSign 19 = .ok (.i2b, 1) := by decide +kernel
theorem dX6_putSign_20 : decode cX6_putSign 20 = .ok (.bastore, 1) := by decide +kernel
theorem dX6_putSign_21 : decode cX6_putSign 21 = .ok (.aload_n 0, 1) := by decide +kernel
theorem dX6_putSign_22 : decode cX6_putSign 22 = .ok (.dup, 1) := by decide +kernel
theorem dX6_putSign_23 : decode cX6_putSign 23 = .ok (.getfield 99, 3) := by decide +kernel
theorem dX6_putSign_26 : decode cX6_putSign 26 = .ok (.iconst 1, 1) := by decide +kernel
theorem dX6_putSign_27 : decode cX6_putSign 27 = .ok (.iadd, 1) := by decide +kernel
theorem dX6_putSign_28 : decode cX6_putSign 28 = .ok (.putfield 99, 3) := by decide +kernel
theorem dX6_putSign_31 : decode cX6_putSign 31 = .ok (.return_, 1) := by decide +kernel
theorem dX6_lacking_0 : decode cX6_lacking 0 = .ok (.aload_n 0, 1) := by decide +kernel
theorem dX6_lacking_1 : decode cX6_lacking 1 = .ok (.getfield 53, 3) := by decide +kernel
theorem dX6_lacking_4 : decode cX6_lacking 4 = .ok (.ifCond .ne 5, 3) := by decide +kernel
theorem dX6_lacking_7 : decode cX6_lacking 7 = .ok (.iconst 0, 1) := by decide +kernel
theorem dX6_lacking_8 : decode cX6_lacking 8 = .ok (.ireturn, 1) := by decide +kernel
theorem dX6_lacking_9 : decode cX6_lacking 9 = .ok (.aload_n 0, 1) := by decide +kernel
theorem dX6_lacking_10 : decode cX6_lacking 10 = .ok (.aload_n 0, 1) := by decide +kernel
theorem dX6_lacking_11 : decode cX6_lacking 11 = .ok (.getfield 40, 3) := by decide +kernel
theorem dX6_lacking_14 : decode cX6_lacking 14 = .ok (.putfield 102, 3) := by decide +kernel
theorem dX6_lacking_17 : decode cX6_lacking 17 = .ok (.bipush (-7), 2) := by decide +kernel
theorem dX6_lacking_19 : decode cX6_lacking 19 = .ok (.ireturn, 1) := by decide +kernel
theorem dX6_finished_0 : decode cX6_finished 0 = .ok (.aload_n 0, 1) := by decide +kernel
theorem dX6_finished_1 : decode cX6_finished 1 = .ok (.aload_n 0, 1) := by decide +kernel
theorem dX6_finished_2 : decode cX6_finished 2 = .ok (.getfield 99, 3) := by decide +kernel
theorem dX6_finished_5 : decode cX6_finished 5 = .ok (.i2l, 1) := by decide +kernel
theorem dX6_finished_6 : decode cX6_finished 6 = .ok (.putfield 77, 3) := by decide +kernel
theorem dX6_finished_9 : decode cX6_finished 9 = .ok (.aload_n 0, 1) := by decide +kernel
theorem dX6_finished_10 : decode cX6_finished 10 = .ok (.getfield 99, 3) := by decide +kernel
theorem dX6_finished_13 : decode cX6_finished 13 = .ok (.sipush 400, 3) := by decide +kernel
theorem dX6_finished_16 : decode cX6_finished 16 = .ok (.if_icmp .le 8, 3) := by decide +kernel
theorem dX6_finished_19 : decode cX6_finished 19 = .ok (.bipush (-2), 2) := by decide +kernel
theorem dX6_finished_21 : decode cX6_finished 21 = .ok (.goto 5, 3) := by decide +kernel
theorem dX6_finished_24 : decode cX6_finished 24 = .ok (.bipush 6, 2) := by decide +kernel
theorem dX6_finished_26 : decode cX6_finished 26 = .ok (.ireturn, 1) := by decide +kernel
theorem dX6_escape_0 : decode cX6_escape 0 = .ok (.aload_n 0, 1) := by decide +kernel
theorem dX6_escape_1 : decode cX6_escape 1 = .ok (.aload_n 0, 1) := by decide +kernel
theorem dX6_escape_2 : decode cX6_escape 2 = .ok (.getfield 102, 3) := by decide +kernel
theorem dX6_escape_5 : decode cX6_escape 5 = .ok (.invokevirtual 63, 3) := by decide +kernel
theorem dX6_escape_8 : decode cX6_escape 8 = .ok (.istore_n 1, 1) := by decide +kernel
theorem dX6_escape_9 : decode cX6_escape 9 = .ok (.aload_n 0, 1) := by decide +kernel
theorem dX6_escape_10 : decode cX6_escape 10 = .ok (.dup, 1) := by decide +kernel
theorem dX6_escape_11 : decode cX6_escape 11 = .ok (.getfield 102, 3) := by decide +kernel
theorem dX6_escape_14 : decode cX6_escape 14 = .ok (.iconst 1, 1) := by decide +kernel
theorem dX6_escape_15 : decode cX6_escape 15 = .ok (.iadd, 1) := by decide +kernel
theorem dX6_escape_16 : decode cX6_escape 16 = .ok (.putfield 102, 3) := by decide +kernel
theorem dX6_escape_19 : decode cX6_escape 19 = .ok (.iload_n 1, 1) := by decide +kernel
theorem dX6_escape_20 : decode cX6_escape 20 = .ok (.bipush 48, 2) := by decide +kernel
theorem dX6_escape_22 : decode cX6_escape 22 = .ok (.if_icmp .lt 92, 3) := by decide +kernel
theorem dX6_escape_25 : decode cX6_escape 25 = .ok (.iload_n 1, 1) := by decide +kernel
theorem dX6_escape_26 : decode cX6_escape 26 = .ok (.bipush 55, 2) := by decide +kernel
theorem dX6_escape_28 : decode cX6_escape 28 = .ok (.if_icmp .gt 86, 3) := by decide +kernel
theorem dX6_escape_31 : decode cX6_escape 31 = .ok (.iload_n 1, 1) := by decide +kernel
theorem dX6_escape_32 : decode cX6_escape 32 = .ok (.bipush 48, 2) := by decide +kernel
theorem dX6_escape_34 : decode cX6_escape 34 = .ok (.isub, 1) := by decide +kernel
theorem dX6_escape_35 : decode cX6_escape 35 = .ok (.istore_n 2, 1) := by decide +kernel
theorem dX6_escape_36 : decode cX6_escape 36 = .ok (.iconst 1, 1) := by decide +kernel
theorem dX6_escape_37 : decode cX6_escape 37 = .ok (.istore_n 3, 1) := by decide +kernel
theorem dX6_escape_38 : decode cX6_escape 38 = .ok (.iload_n 3, 1) := by decide +kernel
theorem dX6_escape_39 : decode cX6_escape 39 = .ok (.iconst 3, 1) := by decide +kernel
theorem dX6_escape_40 : decode cX6_escape 40 = .ok (.if_icmp .ge 62, 3) := by decide +kernel
theorem dX6_escape_43 : decode cX6_escape 43 = .ok (.aload_n 0, 1) := by decide +kernel
theorem dX6_escape_44 : decode cX6_escape 44 = .ok (.aload_n 0, 1) := by decide +kernel
theorem dX6_escape_45 : decode cX6_escape 45 = .ok (.getfield 102, 3) := by decide +kernel
theorem dX6_escape_48 : decode cX6_escape 48 = .ok (.invokevirtual 63, 3) := by decide +kernel
theorem dX6_escape_51 : decode cX6_escape 51 = .ok (.bipush 48, 2) := by decide +kernel
theorem dX6_escape_53 : decode cX6_escape 53 = .ok (.if_icmp .lt 49, 3) := by decide +kernel
theorem dX6_escape_56 : decode cX6_escape 56 = .ok (.aload_n 0, 1) := by decide +kernel
theorem dX6_escape_57 : decode cX6_escape 57 = .ok (.aload_n 0, 1) := by decide +kernel
theorem dX6_escape_58 : decode cX6_escape 58 = .ok (.getfield 102, 3) := by decide +kernel
theorem dX6_escape_61 : decode cX6_escape 61 = .ok (.invokevirtual 63, 3) := by decide +kernel
theorem dX6_escape_64 : decode cX6_escape 64 = .ok (.bipush 55, 2) := by decide +kernel
theorem dX6_escape_66 : decode cX6_escape 66 = .ok (.if_icmp .gt 36, 3) := by decide +kernel
theorem dX6_escape_69 : decode cX6_escape 69 = .ok (.bipush 8, 2) := by decide +kernel
theorem dX6_escape_71 : decode cX6_escape 71 = .ok (.iload_n 2, 1) := by decide +kernel
theorem dX6_escape_72 : decode cX6_escape 72 = .ok (.imul, 1) := by decide +kernel
theorem dX6_escape_73 : decode cX6_escape 73 = .ok (.aload_n 0, 1) := by decide +kernel
theorem dX6_escape_74 : decode cX6_escape 74 = .ok (.aload_n 0, 1) := by decide +kernel
theorem dX6_escape_75 : decode cX6_escape 75 = .ok (.getfield 102, 3) := by decide +kernel
theorem dX6_escape_78 : decode cX6_escape 78 = .ok (.invokevirtual 63, 3) := by decide +kernel
theorem dX6_escape_81 : decode cX6_escape 81 = .ok (.iadd, 1) := by decide +kernel
theorem dX6_escape_82 : decode cX6_escape 82 = .ok (.bipush 48, 2) := by decide +kernel
theorem dX6_escape_84 : decode cX6_escape 84 = .ok (.isub, 1) := by decide +kernel
theorem dX6_escape_85 : decode cX6_escape 85 = .ok (.istore_n 2, 1) := by decide +kernel
theorem dX6_escape_86 : decode cX6_escape 86 = .ok (.aload_n 0, 1) := by decide +kernel
theorem dX6_escape_87 : decode cX6_escape 87 = .ok (.dup, 1) := by decide +kernel
theorem dX6_escape_88 : decode cX6_escape 88 = .ok (.getfield 102, 3) := by decide +kernel
theorem dX6_escape_91 : decode cX6_escape 91 = .ok (.iconst 1, 1) := by decide +kernel
theorem dX6_escape_92 : decode cX6_escape 92 = .ok (.iadd, 1) := by decide +kernel
theorem dX6_escape_93 : decode cX6_escape 93 = .ok (.putfield 102, 3) := by decide +kernel
theorem dX6_escape_96 : decode cX6_escape 96 = .ok (.iinc 3 1, 3) := by decide +kernel
theorem dX6_escape_99 : decode cX6_escape 99 = .ok (.goto (-61), 3) := by decide +kernel
theorem dX6_escape_102 : decode cX6_escape 102 = .ok (.aload_n 0, 1) := by decide +kernel
theorem dX6_escape_103 : decode cX6_escape 103 = .ok (.iload_n 2, 1) := by decide +kernel
theorem dX6_escape_104 : decode cX6_escape 104 = .ok (.sipush 255, 3) := by decide +kernel
theorem dX6_escape_107 : decode cX6_escape 107 = .ok (.iand, 1) := by decide +kernel
theorem dX6_escape_108 : decode cX6_escape 108 = .ok (.invokevirtual 122, 3) := by decide +kernel
theorem dX6_escape_111 : decode cX6_escape 111 = .ok (.goto 108, 3) := by decide +kernel
theorem dX6_escape_114 : decode cX6_escape 114 = .ok (.iload_n 1, 1) := by decide +kernel
theorem dX6_escape_115 : decode cX6_escape 115 = .ok (.bipush 13, 2) := by decide +kernel
theorem dX6_escape_117 : decode cX6_escape 117 = .ok (.if_icmp .ne 36, 3) := by decide +kernel
theorem dX6_escape_120 : decode cX6_escape 120 = .ok (.aload_n 0, 1) := by decide +kernel
theorem dX6_escape_121 : decode cX6_escape 121 = .ok (.aload_n 0, 1) := by decide +kernel
theorem dX6_escape_122 : decode cX6_escape 122 = .ok (.aload_n 0, 1) := by decide +kernel
theorem dX6_escape_123 : decode cX6_escape 123 = .ok (.getfield 102, 3) := by decide +kernel
theorem dX6_escape_126 : decode cX6_escape 126 = .ok (.invokevirtual 63, 3) := by decide +kernel
theorem dX6_escape_129 : decode cX6_escape 129 = .ok (.bipush 10, 2) := by decide +kernel
theorem dX6_escape_131 : decode cX6_escape 131 = .ok (.if_icmp .ne 12, 3) := by decide +kernel
theorem dX6_escape_134 : decode cX6_escape 134 = .ok (.aload_n 0, 1) := by decide +kernel
theorem dX6_escape_135 : decode cX6_escape 135 = .ok (.getfield 102, 3) := by decide +kernel
theorem dX6_escape_138 : decode cX6_escape 138 = .ok (.iconst 1, 1) := by decide +kernel
theorem dX6_escape_139 : decode cX6_escape 139 = .ok (.iadd, 1) := by decide +kernel
theorem dX6_escape_140 : decode cX6_escape 140 = .ok (.goto 7, 3) := by decide +kernel
theorem dX6_escape_143 : decode cX6_escape 143 = .ok (.aload_n 0, 1) := by decide +kernel
theorem dX6_escape_144 : decode cX6_escape 144 = .ok (.getfield 102, 3) := by decide +kernel
theorem dX6_escape_147 : decode cX6_escape 147 = .ok (.putfield 102, 3) := by decide +kernel
theorem dX6_escape_150 : decode cX6_escape 150 = .ok (.goto 69, 3) := by decide +kernel
theorem dX6_escape_153 : decode cX6_escape 153 = .ok (.iload_n 1, 1) := by decide +kernel
theorem dX6_escape_154 : decode cX6_escape 154 = .ok (.bipush 10, 2) := by decide +kernel
theorem dX6_escape_156 : decode cX6_escape 156 = .ok (.if_icmp .eq 63, 3) := by decide +kernel
theorem dX6_escape_159 : decode cX6_escape 159 = .ok (.aload_n 0, 1) := by decide +kernel
theorem dX6_escape_160 : decode cX6_escape 160 = .ok (.iload_n 1, 1) := by decide +kernel
theorem dX6_escape_161 : decode cX6_escape 161 = .ok (.bipush 110, 2) := by decide +kernel
theorem dX6_escape_163 : decode cX6_escape 163 = .ok (.if_icmp .ne 8, 3) := by decide +kernel
theorem dX6_escape_166 : decode cX6_escape 166 = .ok (.bipush 10, 2) := by decide +kernel
theorem dX6_escape_168 : decode cX6_escape 168 = .ok (.goto 48, 3) := by decide +kernel
theorem dX6_escape_171 : decode cX6_escape 171 = .ok (.iload_n 1, 1) := by decide +kernel
theorem dX6_escape_172 : decode cX6_escape 172 = .ok (.bipush 114, 2) := by decide +kernel
theorem dX6_escape_174 : decode cX6_escape 174 = .ok (.if_icmp .ne 8, 3) := by decide +kernel
theorem dX6_escape_177 : decode cX6_escape 177 = .ok (.bipush 13, 2) := by decide +kernel
theorem dX6_escape_179 : decode cX6_escape 179 = .ok (.goto 37, 3) := by decide +kernel
theorem dX6_escape_182 : decode cX6_escape 182 = .ok (.iload_n 1, 1) := by decide +kernel
theorem dX6_escape_183 : decode cX6_escape 183 = .ok (.bipush 116, 2) := by decide +kernel
theorem dX6_escape_185 : decode cX6_escape 185 = .ok (.if_icmp .ne 8, 3) := by decide +kernel
theorem dX6_escape_188 : decode cX6_escape 188 = .ok (.bipush 9, 2) := by decide +kernel
theorem dX6_escape_190 : decode cX6_escape 190 = .ok (.goto 26, 3) := by decide +kernel
theorem dX6_escape_193 : decode cX6_escape 193 = .ok (.iload_n 1, 1) := by decide +kernel
theorem dX6_escape_194 : decode cX6_escape 194 = .ok (.bipush 98, 2) := by decide +kernel
theorem dX6_escape_196 : decode cX6_escape 196 = .ok (.if_icmp .ne 8, 3) := by decide +kernel
theorem dX6_escape_199 : decode cX6_escape 199 = .ok (.bipush 8, 2) := by decide +kernel
theorem dX6_escape_201 : decode cX6_escape 201 = .ok (.goto 15, 3) := by decide +kernel
theorem dX6_escape_204 : decode cX6_escape 204 = .ok (.iload_n 1, 1) := by decide +kernel
theorem dX6_escape_205 : decode cX6_escape 205 = .ok (.bipush 102, 2) := by decide +kernel
theorem dX6_escape_207 : decode cX6_escape 207 = .ok (.if_icmp .ne 8, 3) := by decide +kernel
theorem dX6_escape_210 : decode cX6_escape 210 = .ok (.bipush 12, 2) := by decide +kernel
theorem dX6_escape_212 : decode cX6_escape 212 = .ok (.goto 4, 3) := by decide +kernel
theorem dX6_escape_215 : decode cX6_escape 215 = .ok (.iload_n 1, 1) := by decide +kernel
theorem dX6_escape_216 : decode cX6_escape 216 = .ok (.invokevirtual 122, 3) := by decide +kernel
theorem dX6_escape_219 : decode cX6_escape 219 = .ok (.return_, 1) := by decide +kernel
theorem dX6_round_0 : decode cX6_round 0 = .ok (.aload_n 0, 1) := by decide +kernel
theorem dX6_round_1 : decode cX6_round 1 = .ok (.dup, 1) := by decide +kernel
theorem dX6_round_2 : decode cX6_round 2 = .ok (.getfield 102, 3) := by decide +kernel
theorem dX6_round_5 : decode cX6_round 5 = .ok (.iconst 1, 1) := by decide +kernel
theorem dX6_round_6 : decode cX6_round 6 = .ok (.iadd, 1) := by decide +kernel
theorem dX6_round_7 : decode cX6_round 7 = .ok (.putfield 102, 3) := by decide +kernel
theorem dX6_round_10 : decode cX6_round 10 = .ok (.iconst 1, 1) := by decide +kernel
theorem dX6_round_11 : decode cX6_round 11 = .ok (.istore_n 1, 1) := by decide +kernel
theorem dX6_round_12 : decode cX6_round 12 = .ok (.aload_n 0, 1) := by decide +kernel
theorem dX6_round_13 : decode cX6_round 13 = .ok (.getfield 102, 3) := by decide +kernel
theorem dX6_round_16 : decode cX6_round 16 = .ok (.aload_n 0, 1) := by decide +kernel
theorem dX6_round_17 : decode cX6_round 17 = .ok (.getfield 40, 3) := by decide +kernel
theorem dX6_round_20 : decode cX6_round 20 = .ok (.if_icmp .ge 134, 3) := by decide +kernel
theorem dX6_round_23 : decode cX6_round 23 = .ok (.aload_n 0, 1) := by decide +kernel
theorem dX6_round_24 : decode cX6_round 24 = .ok (.aload_n 0, 1) := by decide +kernel
theorem dX6_round_25 : decode cX6_round 25 = .ok (.getfield 102, 3) := by decide +kernel
theorem dX6_round_28 : decode cX6_round 28 = .ok (.invokevirtual 63, 3) := by decide +kernel
theorem dX6_round_31 : decode cX6_round 31 = .ok (.istore_n 2, 1) := by decide +kernel
theorem dX6_round_32 : decode cX6_round 32 = .ok (.aload_n 0, 1) := by decide +kernel
theorem dX6_round_33 : decode cX6_round 33 = .ok (.dup, 1) := by decide +kernel
theorem dX6_round_34 : decode cX6_round 34 = .ok (.getfield 102, 3) := by decide +kernel
theorem dX6_round_37 : decode cX6_round 37 = .ok (.iconst 1, 1) := by decide +kernel
theorem dX6_round_38 : decode cX6_round 38 = .ok (.iadd, 1) := by decide +kernel
theorem dX6_round_39 : decode cX6_round 39 = .ok (.putfield 102, 3) := by decide +kernel
theorem dX6_round_42 : decode cX6_round 42 = .ok (.iload_n 2, 1) := by decide +kernel
theorem dX6_round_43 : decode cX6_round 43 = .ok (.bipush 92, 2) := by decide +kernel
theorem dX6_round_45 : decode cX6_round 45 = .ok (.if_icmp .ne 21, 3) := by decide +kernel
theorem dX6_round_48 : decode cX6_round 48 = .ok (.aload_n 0, 1) := by decide +kernel
theorem dX6_round_49 : decode cX6_round 49 = .ok (.getfield 102, 3) := by decide +kernel
theorem dX6_round_52 : decode cX6_round 52 = .ok (.aload_n 0, 1) := by decide +kernel
theorem dX6_round_53 : decode cX6_round 53 = .ok (.getfield 40, 3) := by decide +kernel
theorem dX6_round_56 : decode cX6_round 56 = .ok (.if_icmp .ge 95, 3) := by decide +kernel
theorem dX6_round_59 : decode cX6_round 59 = .ok (.aload_n 0, 1) := by decide +kernel
theorem dX6_round_60 : decode cX6_round 60 = .ok (.invokevirtual 126, 3) := by decide +kernel
theorem dX6_round_63 : decode cX6_round 63 = .ok (.goto 88, 3) := by decide +kernel
theorem dX6_round_66 : decode cX6_round 66 = .ok (.iload_n 2, 1) := by decide +kernel
theorem dX6_round_67 : decode cX6_round 67 = .ok (.bipush 13, 2) := by decide +kernel
theorem dX6_round_69 : decode cX6_round 69 = .ok (.if_icmp .ne 42, 3) := by decide +kernel
theorem dX6_round_72 : decode cX6_round 72 = .ok (.aload_n 0, 1) := by decide +kernel
theorem dX6_round_73 : decode cX6_round 73 = .ok (.aload_n 0, 1) := by decide +kernel
theorem dX6_round_74 : decode cX6_round 74 = .ok (.aload_n 0, 1) := by decide +kernel
theorem dX6_round_75 : decode cX6_round 75 = .ok (.getfield 102, 3) := by decide +kernel
theorem dX6_round_78 : decode cX6_round 78 = .ok (.invokevirtual 63, 3) := by decide +kernel
theorem dX6_round_81 : decode cX6_round 81 = .ok (.bipush 10, 2) := by decide +kernel
theorem dX6_round_83 : decode cX6_round 83 = .ok (.if_icmp .ne 12, 3) := by decide +kernel
theorem dX6_round_86 : decode cX6_round 86 = .ok (.aload_n 0, 1) := by decide +kernel
theorem dX6_round_87 : decode cX6_round 87 = .ok (.getfield 102, 3) := by decide +kernel
theorem dX6_round_90 : decode cX6_round 90 = .ok (.iconst 1, 1) := by decide +kernel
theorem dX6_round_91 : decode cX6_round 91 = .ok (.iadd, 1) := by decide +kernel
theorem dX6_round_92 : decode cX6_round 92 = .ok (.goto 7, 3) := by decide +kernel
theorem dX6_round_95 : decode cX6_round 95 = .ok (.aload_n 0, 1) := by decide +kernel
theorem dX6_round_96 : decode cX6_round 96 = .ok (.getfield 102, 3) := by decide +kernel
theorem dX6_round_99 : decode cX6_round 99 = .ok (.putfield 102, 3) := by decide +kernel
theorem dX6_round_102 : decode cX6_round 102 = .ok (.aload_n 0, 1) := by decide +kernel
theorem dX6_round_103 : decode cX6_round 103 = .ok (.bipush 10, 2) := by decide +kernel
theorem dX6_round_105 : decode cX6_round 105 = .ok (.invokevirtual 122, 3) := by decide +kernel
theorem dX6_round_108 : decode cX6_round 108 = .ok (.goto 43, 3) := by decide +kernel
theorem dX6_round_111 : decode cX6_round 111 = .ok (.iload_n 2, 1) := by decide +kernel
theorem dX6_round_112 : decode cX6_round 112 = .ok (.bipush 40, 2) := by decide +kernel
theorem dX6_round_114 : decode cX6_round 114 = .ok (.if_icmp .ne 9, 3) := by decide +kernel
theorem dX6_round_117 : decode cX6_round 117 = .ok (.iload_n 1, 1) := by decide +kernel
theorem dX6_round_118 : decode cX6_round 118 = .ok (.iconst 1, 1) := by decide +kernel
theorem dX6_round_119 : decode cX6_round 119 = .ok (.iadd, 1) := by decide +kernel
theorem dX6_round_120 : decode cX6_round 120 = .ok (.goto 16, 3) := by decide +kernel
theorem dX6_round_123 : decode cX6_round 123 = .ok (.iload_n 2, 1) := by decide +kernel
theorem dX6_round_124 : decode cX6_round 124 = .ok (.bipush 41, 2) := by decide +kernel
theorem dX6_round_126 : decode cX6_round 126 = .ok (.if_icmp .ne 9, 3) := by decide +kernel
theorem dX6_round_129 : decode cX6_round 129 = .ok (.iload_n 1, 1) := by decide +kernel
theorem dX6_round_130 : decode cX6_round 130 = .ok (.iconst 1, 1) := by decide +kernel
theorem dX6_round_131 : decode cX6_round 131 = .ok (.isub, 1) := by decide +kernel
theorem dX6_round_132 : decode cX6_round 132 = .ok (.goto 4, 3) := by decide +kernel
theorem dX6_round_135 : decode cX6_round 135 = .ok (.iload_n 1, 1) := by decide +kernel
theorem dX6_round_136 : decode cX6_round 136 = .ok (.istore_n 1, 1) := by decide +kernel
theorem dX6_round_137 : decode cX6_round 137 = .ok (.iload_n 1, 1) := by decide +kernel
theorem dX6_round_138 : decode cX6_round 138 = .ok (.ifCond .ne 8, 3) := by decide +kernel
theorem dX6_round_141 : decode cX6_round 141 = .ok (.aload_n 0, 1) := by decide +kernel
theorem dX6_round_142 : decode cX6_round 142 = .ok (.invokevirtual 129, 3) := by decide +kernel
theorem dX6_round_145 : decode cX6_round 145 = .ok (.ireturn, 1) := by decide +kernel
theorem dX6_round_146 : decode cX6_round 146 = .ok (.aload_n 0, 1) := by decide +kernel
theorem dX6_round_147 : decode cX6_round 147 = .ok (.iload_n 2, 1) := by decide +kernel
theorem dX6_round_148 : decode cX6_round 148 = .ok (.invokevirtual 122, 3) := by decide +kernel
theorem dX6_round_151 : decode cX6_round 151 = .ok (.goto (-139), 3) := by decide +kernel
theorem dX6_round_154 : decode cX6_round 154 = .ok (.aload_n 0, 1) := by decide +kernel
theorem dX6_round_155 : decode cX6_round 155 = .ok (.invokevirtual 132, 3) := by decide +kernel
theorem dX6_round_158 : decode cX6_round 158 = .ok (.ireturn, 1) := by decide +kernel
theorem dX6_wrongByte_0 : decode cX6_wrongByte 0 = .ok (.aload_n 0, 1) := by decide +kernel
theorem dX6_wrongByte_1 : decode cX6_wrongByte 1 = .ok (.aload_n 0, 1) := by decide +kernel
theorem dX6_wrongByte_2 : decode cX6_wrongByte 2 = .ok (.getfield 102, 3) := by decide +kernel
theorem dX6_wrongByte_5 : decode cX6_wrongByte 5 = .ok (.putfield 135, 3) := by decide +kernel
theorem dX6_wrongByte_8 : decode cX6_wrongByte 8 = .ok (.aload_n 0, 1) := by decide +kernel
theorem dX6_wrongByte_9 : decode cX6_wrongByte 9 = .ok (.dup, 1) := by decide +kernel
theorem dX6_wrongByte_10 : decode cX6_wrongByte 10 = .ok (.getfield 102, 3) := by decide +kernel
theorem dX6_wrongByte_13 : decode cX6_wrongByte 13 = .ok (.iconst 1, 1) := by decide +kernel
theorem dX6_wrongByte_14 : decode cX6_wrongByte 14 = .ok (.iadd, 1) := by decide +kernel
theorem dX6_wrongByte_15 : decode cX6_wrongByte 15 = .ok (.putfield 102, 3) := by decide +kernel
theorem dX6_wrongByte_18 : decode cX6_wrongByte 18 = .ok (.iconst (-1), 1) := by decide +kernel
theorem dX6_wrongByte_19 : decode cX6_wrongByte 19 = .ok (.iload_n 1, 1) := by decide +kernel
theorem dX6_wrongByte_20 : decode cX6_wrongByte 20 = .ok (.isub, 1) := by decide +kernel
theorem dX6_wrongByte_21 : decode cX6_wrongByte 21 = .ok (.ireturn, 1) := by decide +kernel
theorem dX6_sixteens_0 : decode cX6_sixteens 0 = .ok (.iconst (-1), 1) := by decide +kernel
theorem dX6_sixteens_1 : decode cX6_sixteens 1 = .ok (.istore_n 1, 1) := by decide +kernel
theorem dX6_sixteens_2 : decode cX6_sixteens 2 = .ok (.aload_n 0, 1) := by decide +kernel
theorem dX6_sixteens_3 : decode cX6_sixteens 3 = .ok (.getfield 102, 3) := by decide +kernel
theorem dX6_sixteens_6 : decode cX6_sixteens 6 = .ok (.aload_n 0, 1) := by decide +kernel
theorem dX6_sixteens_7 : decode cX6_sixteens 7 = .ok (.getfield 40, 3) := by decide +kernel
theorem dX6_sixteens_10 : decode cX6_sixteens 10 = .ok (.if_icmp .ge 103, 3) := by decide +kernel
theorem dX6_sixteens_13 : decode cX6_sixteens 13 = .ok (.aload_n 0, 1) := by decide +kernel
theorem dX6_sixteens_14 : decode cX6_sixteens 14 = .ok (.aload_n 0, 1) := by decide +kernel
theorem dX6_sixteens_15 : decode cX6_sixteens 15 = .ok (.getfield 102, 3) := by decide +kernel
theorem dX6_sixteens_18 : decode cX6_sixteens 18 = .ok (.invokevirtual 63, 3) := by decide +kernel
theorem dX6_sixteens_21 : decode cX6_sixteens 21 = .ok (.istore_n 2, 1) := by decide +kernel
theorem dX6_sixteens_22 : decode cX6_sixteens 22 = .ok (.iload_n 2, 1) := by decide +kernel
theorem dX6_sixteens_23 : decode cX6_sixteens 23 = .ok (.bipush 62, 2) := by decide +kernel
theorem dX6_sixteens_25 : decode cX6_sixteens 25 = .ok (.if_icmp .ne 30, 3) := by decide +kernel
theorem dX6_sixteens_28 : decode cX6_sixteens 28 = .ok (.aload_n 0, 1) := by decide +kernel
theorem dX6_sixteens_29 : decode cX6_sixteens 29 = .ok (.dup, 1) := by decide +kernel
theorem dX6_sixteens_30 : decode cX6_sixteens 30 = .ok (.getfield 102, 3) := by decide +kernel
theorem dX6_sixteens_33 : decode cX6_sixteens 33 = .ok (.iconst 1, 1) := by decide +kernel
theorem dX6_sixteens_34 : decode cX6_sixteens 34 = .ok (.iadd, 1) := by decide +kernel
theorem dX6_sixteens_35 : decode cX6_sixteens 35 = .ok (.putfield 102, 3) := by decide +kernel
theorem dX6_sixteens_38 : decode cX6_sixteens 38 = .ok (.iload_n 1, 1) := by decide +kernel
theorem dX6_sixteens_39 : decode cX6_sixteens 39 = .ok (.ifCond .lt 11, 3) := by decide +kernel
theorem dX6_sixteens_42 : decode cX6_sixteens 42 = .ok (.aload_n 0, 1) := by decide +kernel
theorem dX6_sixteens_43 : decode cX6_sixteens 43 = .ok (.bipush 16, 2) := by decide +kernel
theorem dX6_sixteens_45 : decode cX6_sixteens 45 = .ok (.iload_n 1, 1) := by decide +kernel
theorem dX6_sixteens_46 : decode cX6_sixteens 46 = .ok (.imul, 1) := by decide +kernel
theorem dX6_sixteens_47 : decode cX6_sixteens 47 = .ok (.invokevirtual 122, 3) := by decide +kernel
theorem dX6_sixteens_50 : decode cX6_sixteens 50 = .ok (.aload_n 0, 1) := by decide +kernel
theorem dX6_sixteens_51 : decode cX6_sixteens 51 = .ok (.invokevirtual 129, 3) := by decide +kernel
theorem dX6_sixteens_54 : decode cX6_sixteens 54 = .ok (.ireturn, 1) := by decide +kernel
theorem dX6_sixteens_55 : decode cX6_sixteens 55 = .ok (.iload_n 2, 1) := by decide +kernel
theorem dX6_sixteens_56 : decode cX6_sixteens 56 = .ok (.invokestatic 46, 3) := by decide +kernel
theorem dX6_sixteens_59 : decode cX6_sixteens 59 = .ok (.ifCond .ne 41, 3) := by decide +kernel
theorem dX6_sixteens_62 : decode cX6_sixteens 62 = .ok (.iload_n 2, 1) := by decide +kernel
theorem dX6_sixteens_63 : decode cX6_sixteens 63 = .ok (.invokestatic 88, 3) := by decide +kernel
theorem dX6_sixteens_66 : decode cX6_sixteens 66 = .ok (.istore_n 3, 1) := by decide +kernel
theorem dX6_sixteens_67 : decode cX6_sixteens 67 = .ok (.iload_n 3, 1) := by decide +kernel
theorem dX6_sixteens_68 : decode cX6_sixteens 68 = .ok (.bipush 15, 2) := by decide +kernel
theorem dX6_sixteens_70 : decode cX6_sixteens 70 = .ok (.if_icmp .le 9, 3) := by decide +kernel
theorem dX6_sixteens_73 : decode cX6_sixteens 73 = .ok (.aload_n 0, 1) := by decide +kernel
theorem dX6_sixteens_74 : decode cX6_sixteens 74 = .ok (.iconst 2, 1) := by decide +kernel
theorem dX6_sixteens_75 : decode cX6_sixteens 75 = .ok (.invokevirtual 138, 3) := by decide +kernel
theorem dX6_sixteens_78 : decode cX6_sixteens 78 = .ok (.ireturn, 1) := by decide +kernel
theorem dX6_sixteens_79 : decode cX6_sixteens 79 = .ok (.iload_n 1, 1) := by decide +kernel
theorem dX6_sixteens_80 : decode cX6_sixteens 80 = .ok (.ifCond .ge 8, 3) := by decide +kernel
theorem dX6_sixteens_83 : decode cX6_sixteens 83 = .ok (.iload_n 3, 1) := by decide +kernel
theorem dX6_sixteens_84 : decode cX6_sixteens 84 = .ok (.istore_n 1, 1) := by decide +kernel
theorem dX6_sixteens_85 : decode cX6_sixteens 85 = .ok (.goto 15, 3) := by decide +kernel
theorem dX6_sixteens_88 : decode cX6_sixteens 88 = .ok (.aload_n 0, 1) := by decide +kernel
theorem dX6_sixteens_89 : decode cX6_sixteens 89 = .ok (.bipush 16, 2) := by decide +kernel
theorem dX6_sixteens_91 : decode cX6_sixteens 91 = .ok (.iload_n 1, 1) := by decide +kernel
theorem dX6_sixteens_92 : decode cX6_sixteens 92 = .ok (.imul, 1) := by decide +kernel
theorem dX6_sixteens_93 : decode cX6_sixteens 93 = .ok (.iload_n 3, 1) := by decide +kernel
theorem dX6_sixteens_94 : decode cX6_sixteens 94 = .ok (.iadd, 1) := by decide +kernel
theorem dX6_sixteens_95 : decode cX6_sixteens 95 = .ok (.invokevirtual 122, 3) := by decide +kernel
theorem dX6_sixteens_98 : decode cX6_sixteens 98 = .ok (.iconst (-1), 1) := by decide +kernel
theorem dX6_sixteens_99 : decode cX6_sixteens 99 = .ok (.istore_n 1, 1) := by decide +kernel
theorem dX6_sixteens_100 : decode cX6_sixteens 100 = .ok (.aload_n 0, 1) := by decide +kernel
theorem dX6_sixteens_101 : decode cX6_sixteens 101 = .ok (.dup, 1) := by decide +kernel
theorem dX6_sixteens_102 : decode cX6_sixteens 102 = .ok (.getfield 102, 3) := by decide +kernel
theorem dX6_sixteens_105 : decode cX6_sixteens 105 = .ok (.iconst 1, 1) := by decide +kernel
theorem dX6_sixteens_106 : decode cX6_sixteens 106 = .ok (.iadd, 1) := by decide +kernel
theorem dX6_sixteens_107 : decode cX6_sixteens 107 = .ok (.putfield 102, 3) := by decide +kernel
theorem dX6_sixteens_110 : decode cX6_sixteens 110 = .ok (.goto (-108), 3) := by decide +kernel
theorem dX6_sixteens_113 : decode cX6_sixteens 113 = .ok (.aload_n 0, 1) := by decide +kernel
theorem dX6_sixteens_114 : decode cX6_sixteens 114 = .ok (.invokevirtual 132, 3) := by decide +kernel
theorem dX6_sixteens_117 : decode cX6_sixteens 117 = .ok (.ireturn, 1) := by decide +kernel
theorem dX6_some_0 : decode cX6_some 0 = .ok (.iconst 0, 1) := by decide +kernel
theorem dX6_some_1 : decode cX6_some 1 = .ok (.istore 4, 2) := by decide +kernel
theorem dX6_some_3 : decode cX6_some 3 = .ok (.iload 4, 2) := by decide +kernel
theorem dX6_some_5 : decode cX6_some 5 = .ok (.iload_n 3, 1) := by decide +kernel
theorem dX6_some_6 : decode cX6_some 6 = .ok (.if_icmp .ge 28, 3) := by decide +kernel
theorem dX6_some_9 : decode cX6_some 9 = .ok (.aload_n 0, 1) := by decide +kernel
theorem dX6_some_10 : decode cX6_some 10 = .ok (.lload_n 1, 1) := by decide +kernel
theorem dX6_some_11 : decode cX6_some 11 = .ok (.bipush 24, 2) := by decide +kernel
theorem dX6_some_13 : decode cX6_some 13 = .ok (.bipush 8, 2) := by decide +kernel
theorem dX6_some_15 : decode cX6_some 15 = .ok (.iload 4, 2) := by decide +kernel
theorem dX6_some_17 : decode cX6_some 17 = .ok (.imul, 1) := by decide +kernel
theorem dX6_some_18 : decode cX6_some 18 = .ok (.isub, 1) := by decide +kernel
theorem dX6_some_19 : decode cX6_some 19 = .ok (.lshr, 1) := by decide +kernel
theorem dX6_some_20 : decode cX6_some 20 = .ok (.ldc2_w 141, 3) := by decide +kernel
theorem dX6_some_23 : decode cX6_some 23 = .ok (.land, 1) := by decide +kernel
theorem dX6_some_24 : decode cX6_some 24 = .ok (.l2i, 1) := by decide +kernel
theorem dX6_some_25 : decode cX6_some 25 = .ok (.invokevirtual 122, 3) := by decide +kernel
theorem dX6_some_28 : decode cX6_some 28 = .ok (.iinc 4 1, 3) := by decide +kernel
theorem dX6_some_31 : decode cX6_some 31 = .ok (.goto (-28), 3) := by decide +kernel
theorem dX6_some_34 : decode cX6_some 34 = .ok (.return_, 1) := by decide +kernel
theorem dX6_eightyFives_0 : decode cX6_eightyFives 0 = .ok (.aload_n 0, 1) := by decide +kernel
theorem dX6_eightyFives_1 : decode cX6_eightyFives 1 = .ok (.aload_n 0, 1) := by decide +kernel
theorem dX6_eightyFives_2 : decode cX6_eightyFives 2 = .ok (.getfield 102, 3) := by decide +kernel
theorem dX6_eightyFives_5 : decode cX6_eightyFives 5 = .ok (.iconst 2, 1) := by decide +kernel
theorem dX6_eightyFives_6 : decode cX6_eightyFives 6 = .ok (.iadd, 1) := by decide +kernel
theorem dX6_eightyFives_7 : decode cX6_eightyFives 7 = .ok (.putfield 102, 3) := by decide +kernel
theorem dX6_eightyFives_10 : decode cX6_eightyFives 10 = .ok (.lconst 0, 1) := by decide +kernel
theorem dX6_eightyFives_11 : decode cX6_eightyFives 11 = .ok (.lstore_n 1, 1) := by decide +kernel
theorem dX6_eightyFives_12 : decode cX6_eightyFives 12 = .ok (.iconst 0, 1) := by decide +kernel
theorem dX6_eightyFives_13 : decode cX6_eightyFives 13 = .ok (.istore_n 3, 1) := by decide +kernel
theorem dX6_eightyFives_14 : decode cX6_eightyFives 14 = .ok (.aload_n 0, 1) := by decide +kernel
theorem dX6_eightyFives_15 : decode cX6_eightyFives 15 = .ok (.getfield 102, 3) := by decide +kernel
theorem dX6_eightyFives_18 : decode cX6_eightyFives 18 = .ok (.aload_n 0, 1) := by decide +kernel
theorem dX6_eightyFives_19 : decode cX6_eightyFives 19 = .ok (.getfield 40, 3) := by decide +kernel
theorem dX6_eightyFives_22 : decode cX6_eightyFives 22 = .ok (.if_icmp .ge 261, 3) := by decide +kernel
theorem dX6_eightyFives_25 : decode cX6_eightyFives 25 = .ok (.aload_n 0, 1) := by decide +kernel
theorem dX6_eightyFives_26 : decode cX6_eightyFives 26 = .ok (.aload_n 0, 1) := by decide +kernel
theorem dX6_eightyFives_27 : decode cX6_eightyFives 27 = .ok (.getfield 102, 3) := by decide +kernel
theorem dX6_eightyFives_30 : decode cX6_eightyFives 30 = .ok (.invokevirtual 63, 3) := by decide +kernel
theorem dX6_eightyFives_33 : decode cX6_eightyFives 33 = .ok (.istore 4, 2) := by decide +kernel
theorem dX6_eightyFives_35 : decode cX6_eightyFives 35 = .ok (.iload 4, 2) := by decide +kernel
theorem dX6_eightyFives_37 : decode cX6_eightyFives 37 = .ok (.bipush 126, 2) := by decide +kernel
theorem dX6_eightyFives_39 : decode cX6_eightyFives 39 = .ok (.if_icmp .ne 134, 3) := by decide +kernel
theorem dX6_eightyFives_42 : decode cX6_eightyFives 42 = .ok (.lload_n 1, 1) := by decide +kernel
theorem dX6_eightyFives_43 : decode cX6_eightyFives 43 = .ok (.lstore 5, 2) := by decide +kernel
theorem dX6_eightyFives_45 : decode cX6_eightyFives 45 = .ok (.iload_n 3, 1) := by decide +kernel
theorem dX6_eightyFives_46 : decode cX6_eightyFives 46 = .ok (.istore 7, 2) := by decide +kernel
theorem dX6_eightyFives_48 : decode cX6_eightyFives 48 = .ok (.iload 7, 2) := by decide +kernel
theorem dX6_eightyFives_50 : decode cX6_eightyFives 50 = .ok (.iconst 5, 1) := by decide +kernel
theorem dX6_eightyFives_51 : decode cX6_eightyFives 51 = .ok (.if_icmp .ge 25, 3) := by decide +kernel
theorem dX6_eightyFives_54 : decode cX6_eightyFives 54 = .ok (.iload_n 3, 1) := by decide +kernel
theorem dX6_eightyFives_55 : decode cX6_eightyFives 55 = .ok (.ifCond .le 21, 3) := by decide +kernel
theorem dX6_eightyFives_58 : decode cX6_eightyFives 58 = .ok (.ldc2_w 143, 3) := by decide +kernel
theorem dX6_eightyFives_61 : decode cX6_eightyFives 61 = .ok (.lload 5, 2) := by decide +kernel
theorem dX6_eightyFives_63 : decode cX6_eightyFives 63 = .ok (.lmul, 1) := by decide +kernel
theorem dX6_eightyFives_64 : decode cX6_eightyFives 64 = .ok (.ldc2_w 145, 3) := by decide +kernel
theorem dX6_eightyFives_67 : decode cX6_eightyFives 67 = .ok (.ladd, 1) := by decide +kernel
theorem dX6_eightyFives_68 : decode cX6_eightyFives 68 = .ok (.lstore 5, 2) := by decide +kernel
theorem dX6_eightyFives_70 : decode cX6_eightyFives 70 = .ok (.iinc 7 1, 3) := by decide +kernel
theorem dX6_eightyFives_73 : decode cX6_eightyFives 73 = .ok (.goto (-25), 3) := by decide +kernel
theorem dX6_eightyFives_76 : decode cX6_eightyFives 76 = .ok (.iload_n 3, 1) := by decide +kernel
theorem dX6_eightyFives_77 : decode cX6_eightyFives 77 = .ok (.iconst 1, 1) := by decide +kernel
theorem dX6_eightyFives_78 : decode cX6_eightyFives 78 = .ok (.if_icmp .eq 16, 3) := by decide +kernel
theorem dX6_eightyFives_81 : decode cX6_eightyFives 81 = .ok (.iload_n 3, 1) := by decide +kernel
theorem dX6_eightyFives_82 : decode cX6_eightyFives 82 = .ok (.ifCond .le 18, 3) := by decide +kernel
theorem dX6_eightyFives_85 : decode cX6_eightyFives 85 = .ok (.lload 5, 2) := by decide +kernel
theorem dX6_eightyFives_87 : decode cX6_eightyFives 87 = .ok (.ldc2_w 71, 3) := by decide +kernel
theorem dX6_eightyFives_90 : decode cX6_eightyFives 90 = .ok (.lcmp, 1) := by decide +kernel
theorem dX6_eightyFives_91 : decode cX6_eightyFives 91 = .ok (.ifCond .lt 9, 3) := by decide +kernel
theorem dX6_eightyFives_94 : decode cX6_eightyFives 94 = .ok (.aload_n 0, 1) := by decide +kernel
theorem dX6_eightyFives_95 : decode cX6_eightyFives 95 = .ok (.iconst 2, 1) := by decide +kernel
theorem dX6_eightyFives_96 : decode cX6_eightyFives 96 = .ok (.invokevirtual 138, 3) := by decide +kernel
theorem dX6_eightyFives_99 : decode cX6_eightyFives 99 = .ok (.ireturn, 1) := by decide +kernel
theorem dX6_eightyFives_100 : decode cX6_eightyFives 100 = .ok (.aload_n 0, 1) := by decide +kernel
theorem dX6_eightyFives_101 : decode cX6_eightyFives 101 = .ok (.dup, 1) := by decide +kernel
theorem dX6_eightyFives_102 : decode cX6_eightyFives 102 = .ok (.getfield 102, 3) := by decide +kernel
theorem dX6_eightyFives_105 : decode cX6_eightyFives 105 = .ok (.iconst 1, 1) := by decide +kernel
theorem dX6_eightyFives_106 : decode cX6_eightyFives 106 = .ok (.iadd, 1) := by decide +kernel
theorem dX6_eightyFives_107 : decode cX6_eightyFives 107 = .ok (.putfield 102, 3) := by decide +kernel
theorem dX6_eightyFives_110 : decode cX6_eightyFives 110 = .ok (.aload_n 0, 1) := by decide +kernel
theorem dX6_eightyFives_111 : decode cX6_eightyFives 111 = .ok (.getfield 102, 3) := by decide +kernel
theorem dX6_eightyFives_114 : decode cX6_eightyFives 114 = .ok (.aload_n 0, 1) := by decide +kernel
theorem dX6_eightyFives_115 : decode cX6_eightyFives 115 = .ok (.getfield 40, 3) := by decide +kernel
theorem dX6_eightyFives_118 : decode cX6_eightyFives 118 = .ok (.if_icmp .ne 8, 3) := by decide +kernel
theorem dX6_eightyFives_121 : decode cX6_eightyFives 121 = .ok (.aload_n 0, 1) := by decide +kernel
theorem dX6_eightyFives_122 : decode cX6_eightyFives 122 = .ok (.invokevirtual 132, 3) := by decide +kernel
theorem dX6_eightyFives_125 : decode cX6_eightyFives 125 = .ok (.ireturn, 1) := by decide +kernel
theorem dX6_eightyFives_126 : decode cX6_eightyFives 126 = .ok (.aload_n 0, 1) := by decide +kernel
theorem dX6_eightyFives_127 : decode cX6_eightyFives 127 = .ok (.aload_n 0, 1) := by decide +kernel
theorem dX6_eightyFives_128 : decode cX6_eightyFives 128 = .ok (.getfield 102, 3) := by decide +kernel
theorem dX6_eightyFives_131 : decode cX6_eightyFives 131 = .ok (.invokevirtual 63, 3) := by decide +kernel
theorem dX6_eightyFives_134 : decode cX6_eightyFives 134 = .ok (.bipush 62, 2) := by decide +kernel
theorem dX6_eightyFives_136 : decode cX6_eightyFives 136 = .ok (.if_icmp .eq 9, 3) := by decide +kernel
theorem dX6_eightyFives_139 : decode cX6_eightyFives 139 = .ok (.aload_n 0, 1) := by decide +kernel
theorem dX6_eightyFives_140 : decode cX6_eightyFives 140 = .ok (.iconst 2, 1) := by decide +kernel
theorem dX6_eightyFives_141 : decode cX6_eightyFives 141 = .ok (.invokevirtual 138, 3) := by decide +kernel
theorem dX6_eightyFives_144 : decode cX6_eightyFives 144 = .ok (.ireturn, 1) := by decide +kernel
theorem dX6_eightyFives_145 : decode cX6_eightyFives 145 = .ok (.aload_n 0, 1) := by decide +kernel
theorem dX6_eightyFives_146 : decode cX6_eightyFives 146 = .ok (.dup, 1) := by decide +kernel
theorem dX6_eightyFives_147 : decode cX6_eightyFives 147 = .ok (.getfield 102, 3) := by decide +kernel
theorem dX6_eightyFives_150 : decode cX6_eightyFives 150 = .ok (.iconst 1, 1) := by decide +kernel
theorem dX6_eightyFives_151 : decode cX6_eightyFives 151 = .ok (.iadd, 1) := by decide +kernel
theorem dX6_eightyFives_152 : decode cX6_eightyFives 152 = .ok (.putfield 102, 3) := by decide +kernel
theorem dX6_eightyFives_155 : decode cX6_eightyFives 155 = .ok (.iload_n 3, 1) := by decide +kernel
theorem dX6_eightyFives_156 : decode cX6_eightyFives 156 = .ok (.ifCond .le 12, 3) := by decide +kernel
theorem dX6_eightyFives_159 : decode cX6_eightyFives 159 = .ok (.aload_n 0, 1) := by decide +kernel
theorem dX6_eightyFives_160 : decode cX6_eightyFives 160 = .ok (.lload 5, 2) := by decide +kernel
theorem dX6_eightyFives_162 : decode cX6_eightyFives 162 = .ok (.iload_n 3, 1) := by decide +kernel
theorem dX6_eightyFives_163 : decode cX6_eightyFives 163 = .ok (.iconst 1, 1) := by decide +kernel
theorem dX6_eightyFives_164 : decode cX6_eightyFives 164 = .ok (.isub, 1) := by decide +kernel
theorem dX6_eightyFives_165 : decode cX6_eightyFives 165 = .ok (.invokevirtual 147, 3) := by decide +kernel
theorem dX6_eightyFives_168 : decode cX6_eightyFives 168 = .ok (.aload_n 0, 1) := by decide +kernel
theorem dX6_eightyFives_169 : decode cX6_eightyFives 169 = .ok (.invokevirtual 129, 3) := by decide +kernel
theorem dX6_eightyFives_172 : decode cX6_eightyFives 172 = .ok (.ireturn, 1) := by decide +kernel
theorem dX6_eightyFives_173 : decode cX6_eightyFives 173 = .ok (.iload 4, 2) := by decide +kernel
theorem dX6_eightyFives_175 : decode cX6_eightyFives 175 = .ok (.bipush 122, 2) := by decide +kernel
theorem dX6_eightyFives_177 : decode cX6_eightyFives 177 = .ok (.if_icmp .ne 16, 3) := by decide +kernel
theorem dX6_eightyFives_180 : decode cX6_eightyFives 180 = .ok (.iload_n 3, 1) := by decide +kernel
theorem dX6_eightyFives_181 : decode cX6_eightyFives 181 = .ok (.ifCond .ne 12, 3) := by decide +kernel
theorem dX6_eightyFives_184 : decode cX6_eightyFives 184 = .ok (.aload_n 0, 1) := by decide +kernel
theorem dX6_eightyFives_185 : decode cX6_eightyFives 185 = .ok (.lconst 0, 1) := by decide +kernel
theorem dX6_eightyFives_186 : decode cX6_eightyFives 186 = .ok (.iconst 4, 1) := by decide +kernel
theorem dX6_eightyFives_187 : decode cX6_eightyFives 187 = .ok (.invokevirtual 147, 3) := by decide +kernel
theorem dX6_eightyFives_190 : decode cX6_eightyFives 190 = .ok (.goto 80, 3) := by decide +kernel
theorem dX6_eightyFives_193 : decode cX6_eightyFives 193 = .ok (.iload 4, 2) := by decide +kernel
theorem dX6_eightyFives_195 : decode cX6_eightyFives 195 = .ok (.bipush 33, 2) := by decide +kernel
theorem dX6_eightyFives_197 : decode cX6_eightyFives 197 = .ok (.if_icmp .lt 59, 3) := by decide +kernel
theorem dX6_eightyFives_200 : decode cX6_eightyFives 200 = .ok (.iload 4, 2) := by decide +kernel
theorem dX6_eightyFives_202 : decode cX6_eightyFives 202 = .ok (.bipush 117, 2) := by decide +kernel
theorem dX6_eightyFives_204 : decode cX6_eightyFives 204 = .ok (.if_icmp .gt 52, 3) := by decide +kernel
theorem dX6_eightyFives_207 : decode cX6_eightyFives 207 = .ok (.ldc2_w 143, 3) := by decide +kernel
theorem dX6_eightyFives_210 : decode cX6_eightyFives 210 = .ok (.lload_n 1, 1) := by decide +kernel
theorem dX6_eightyFives_211 : decode cX6_eightyFives 211 = .ok (.lmul, 1) := by decide +kernel
theorem dX6_eightyFives_212 : decode cX6_eightyFives 212 = .ok (.iload 4, 2) := by decide +kernel
theorem dX6_eightyFives_214 : decode cX6_eightyFives 214 = .ok (.i2l, 1) := by decide +kernel
theorem dX6_eightyFives_215 : decode cX6_eightyFives 215 = .ok (.ladd, 1) := by decide +kernel
theorem dX6_eightyFives_216 : decode cX6_eightyFives 216 = .ok (.ldc2_w 151, 3) := by decide +kernel
theorem dX6_eightyFives_219 : decode cX6_eightyFives 219 = .ok (.lsub, 1) := by decide +kernel
theorem dX6_eightyFives_220 : decode cX6_eightyFives 220 = .ok (.lstore_n 1, 1) := by decide +kernel
theorem dX6_eightyFives_221 : decode cX6_eightyFives 221 = .ok (.iinc 3 1, 3) := by decide +kernel
theorem dX6_eightyFives_224 : decode cX6_eightyFives 224 = .ok (.iload_n 3, 1) := by decide +kernel
theorem dX6_eightyFives_225 : decode cX6_eightyFives 225 = .ok (.iconst 5, 1) := by decide +kernel
theorem dX6_eightyFives_226 : decode cX6_eightyFives 226 = .ok (.if_icmp .ne 44, 3) := by decide +kernel
theorem dX6_eightyFives_229 : decode cX6_eightyFives 229 = .ok (.lload_n 1, 1) := by decide +kernel
theorem dX6_eightyFives_230 : decode cX6_eightyFives 230 = .ok (.ldc2_w 71, 3) := by decide +kernel
theorem dX6_eightyFives_233 : decode cX6_eightyFives 233 = .ok (.lcmp, 1) := by decide +kernel
theorem dX6_eightyFives_234 : decode cX6_eightyFives 234 = .ok (.ifCond .lt 9, 3) := by decide +kernel
theorem dX6_eightyFives_237 : decode cX6_eightyFives 237 = .ok (.aload_n 0, 1) := by decide +kernel
theorem dX6_eightyFives_238 : decode cX6_eightyFives 238 = .ok (.iconst 2, 1) := by decide +kernel
theorem dX6_eightyFives_239 : decode cX6_eightyFives 239 = .ok (.invokevirtual 138, 3) := by decide +kernel
theorem dX6_eightyFives_242 : decode cX6_eightyFives 242 = .ok (.ireturn, 1) := by decide +kernel
theorem dX6_eightyFives_243 : decode cX6_eightyFives 243 = .ok (.aload_n 0, 1) := by decide +kernel
theorem dX6_eightyFives_244 : decode cX6_eightyFives 244 = .ok (.lload_n 1, 1) := by decide +kernel
theorem dX6_eightyFives_245 : decode cX6_eightyFives 245 = .ok (.iconst 4, 1) := by decide +kernel
theorem dX6_eightyFives_246 : decode cX6_eightyFives 246 = .ok (.invokevirtual 147, 3) := by decide +kernel
theorem dX6_eightyFives_249 : decode cX6_eightyFives 249 = .ok (.lconst 0, 1) := by decide +kernel
theorem dX6_eightyFives_250 : decode cX6_eightyFives 250 = .ok (.lstore_n 1, 1) := by decide +kernel
theorem dX6_eightyFives_251 : decode cX6_eightyFives 251 = .ok (.iconst 0, 1) := by decide +kernel
theorem dX6_eightyFives_252 : decode cX6_eightyFives 252 = .ok (.istore_n 3, 1) := by decide +kernel
theorem dX6_eightyFives_253 : decode cX6_eightyFives 253 = .ok (.goto 17, 3) := by decide +kernel
theorem dX6_eightyFives_256 : decode cX6_eightyFives 256 = .ok (.iload 4, 2) := by decide +kernel
theorem dX6_eightyFives_258 : decode cX6_eightyFives 258 = .ok (.invokestatic 46, 3) := by decide +kernel
theorem dX6_eightyFives_261 : decode cX6_eightyFives 261 = .ok (.ifCond .ne 9, 3) := by decide +kernel
theorem dX6_eightyFives_264 : decode cX6_eightyFives 264 = .ok (.aload_n 0, 1) := by decide +kernel
theorem dX6_eightyFives_265 : decode cX6_eightyFives 265 = .ok (.iconst 2, 1) := by decide +kernel
theorem dX6_eightyFives_266 : decode cX6_eightyFives 266 = .ok (.invokevirtual 138, 3) := by decide +kernel
theorem dX6_eightyFives_269 : decode cX6_eightyFives 269 = .ok (.ireturn, 1) := by decide +kernel
theorem dX6_eightyFives_270 : decode cX6_eightyFives 270 = .ok (.aload_n 0, 1) := by decide +kernel
theorem dX6_eightyFives_271 : decode cX6_eightyFives 271 = .ok (.dup, 1) := by decide +kernel
theorem dX6_eightyFives_272 : decode cX6_eightyFives 272 = .ok (.getfield 102, 3) := by decide +kernel
theorem dX6_eightyFives_275 : decode cX6_eightyFives 275 = .ok (.iconst 1, 1) := by decide +kernel
theorem dX6_eightyFives_276 : decode cX6_eightyFives 276 = .ok (.iadd, 1) := by decide +kernel
theorem dX6_eightyFives_277 : decode cX6_eightyFives 277 = .ok (.putfield 102, 3) := by decide +kernel
theorem dX6_eightyFives_280 : decode cX6_eightyFives 280 = .ok (.goto (-266), 3) := by decide +kernel
theorem dX6_eightyFives_283 : decode cX6_eightyFives 283 = .ok (.aload_n 0, 1) := by decide +kernel
theorem dX6_eightyFives_284 : decode cX6_eightyFives 284 = .ok (.invokevirtual 132, 3) := by decide +kernel
theorem dX6_eightyFives_287 : decode cX6_eightyFives 287 = .ok (.ireturn, 1) := by decide +kernel
theorem dX6_angled_0 : decode cX6_angled 0 = .ok (.aload_n 0, 1) := by decide +kernel
theorem dX6_angled_1 : decode cX6_angled 1 = .ok (.getfield 102, 3) := by decide +kernel
theorem dX6_angled_4 : decode cX6_angled 4 = .ok (.iconst 1, 1) := by decide +kernel
theorem dX6_angled_5 : decode cX6_angled 5 = .ok (.iadd, 1) := by decide +kernel
theorem dX6_angled_6 : decode cX6_angled 6 = .ok (.aload_n 0, 1) := by decide +kernel
theorem dX6_angled_7 : decode cX6_angled 7 = .ok (.getfield 40, 3) := by decide +kernel
theorem dX6_angled_10 : decode cX6_angled 10 = .ok (.if_icmp .ne 18, 3) := by decide +kernel
theorem dX6_angled_13 : decode cX6_angled 13 = .ok (.aload_n 0, 1) := by decide +kernel
theorem dX6_angled_14 : decode cX6_angled 14 = .ok (.dup, 1) := by decide +kernel
theorem dX6_angled_15 : decode cX6_angled 15 = .ok (.getfield 102, 3) := by decide +kernel
theorem dX6_angled_18 : decode cX6_angled 18 = .ok (.iconst 1, 1) := by decide +kernel
theorem dX6_angled_19 : decode cX6_angled 19 = .ok (.iadd, 1) := by decide +kernel
theorem dX6_angled_20 : decode cX6_angled 20 = .ok (.putfield 102, 3) := by decide +kernel
theorem dX6_angled_23 : decode cX6_angled 23 = .ok (.aload_n 0, 1) := by decide +kernel
theorem dX6_angled_24 : decode cX6_angled 24 = .ok (.invokevirtual 132, 3) := by decide +kernel
theorem dX6_angled_27 : decode cX6_angled 27 = .ok (.ireturn, 1) := by decide +kernel
theorem dX6_angled_28 : decode cX6_angled 28 = .ok (.aload_n 0, 1) := by decide +kernel
theorem dX6_angled_29 : decode cX6_angled 29 = .ok (.aload_n 0, 1) := by decide +kernel
theorem dX6_angled_30 : decode cX6_angled 30 = .ok (.getfield 102, 3) := by decide +kernel
theorem dX6_angled_33 : decode cX6_angled 33 = .ok (.iconst 1, 1) := by decide +kernel
theorem dX6_angled_34 : decode cX6_angled 34 = .ok (.iadd, 1) := by decide +kernel
theorem dX6_angled_35 : decode cX6_angled 35 = .ok (.invokevirtual 63, 3) := by decide +kernel
theorem dX6_angled_38 : decode cX6_angled 38 = .ok (.bipush 60, 2) := by decide +kernel
theorem dX6_angled_40 : decode cX6_angled 40 = .ok (.if_icmp .ne 16, 3) := by decide +kernel
theorem dX6_angled_43 : decode cX6_angled 43 = .ok (.aload_n 0, 1) := by decide +kernel
theorem dX6_angled_44 : decode cX6_angled 44 = .ok (.aload_n 0, 1) := by decide +kernel
theorem dX6_angled_45 : decode cX6_angled 45 = .ok (.getfield 102, 3) := by decide +kernel
theorem dX6_angled_48 : decode cX6_angled 48 = .ok (.iconst 2, 1) := by decide +kernel
theorem dX6_angled_49 : decode cX6_angled 49 = .ok (.iadd, 1) := by decide +kernel
theorem dX6_angled_50 : decode cX6_angled 50 = .ok (.putfield 102, 3) := by decide +kernel
theorem dX6_angled_53 : decode cX6_angled 53 = .ok (.bipush 11, 2) := by decide +kernel
theorem dX6_angled_55 : decode cX6_angled 55 = .ok (.ireturn, 1) := by decide +kernel
theorem dX6_angled_56 : decode cX6_angled 56 = .ok (.aload_n 0, 1) := by decide +kernel
theorem dX6_angled_57 : decode cX6_angled 57 = .ok (.aload_n 0, 1) := by decide +kernel
theorem dX6_angled_58 : decode cX6_angled 58 = .ok (.getfield 102, 3) := by decide +kernel
theorem dX6_angled_61 : decode cX6_angled 61 = .ok (.iconst 1, 1) := by decide +kernel
theorem dX6_angled_62 : decode cX6_angled 62 = .ok (.iadd, 1) := by decide +kernel
theorem dX6_angled_63 : decode cX6_angled 63 = .ok (.invokevirtual 63, 3) := by decide +kernel
theorem dX6_angled_66 : decode cX6_angled 66 = .ok (.bipush 126, 2) := by decide +kernel
theorem dX6_angled_68 : decode cX6_angled 68 = .ok (.if_icmp .ne 8, 3) := by decide +kernel
theorem dX6_angled_71 : decode cX6_angled 71 = .ok (.aload_n 0, 1) := by decide +kernel
theorem dX6_angled_72 : decode cX6_angled 72 = .ok (.invokevirtual 153, 3) := by decide +kernel
theorem dX6_angled_75 : decode cX6_angled 75 = .ok (.ireturn, 1) := by decide +kernel
theorem dX6_angled_76 : decode cX6_angled 76 = .ok (.aload_n 0, 1) := by decide +kernel
theorem dX6_angled_77 : decode cX6_angled 77 = .ok (.dup, 1) := by decide +kernel
theorem dX6_angled_78 : decode cX6_angled 78 = .ok (.getfield 102, 3) := by decide +kernel
theorem dX6_angled_81 : decode cX6_angled 81 = .ok (.iconst 1, 1) := by decide +kernel
theorem dX6_angled_82 : decode cX6_angled 82 = .ok (.iadd, 1) := by decide +kernel
theorem dX6_angled_83 : decode cX6_angled 83 = .ok (.putfield 102, 3) := by decide +kernel
theorem dX6_angled_86 : decode cX6_angled 86 = .ok (.aload_n 0, 1) := by decide +kernel
theorem dX6_angled_87 : decode cX6_angled 87 = .ok (.invokevirtual 156, 3) := by decide +kernel
theorem dX6_angled_90 : decode cX6_angled 90 = .ok (.ireturn, 1) := by decide +kernel
theorem dX6_signed_0 : decode cX6_signed 0 = .ok (.lconst 0, 1) := by decide +kernel
theorem dX6_signed_1 : decode cX6_signed 1 = .ok (.lstore 4, 2) := by decide +kernel
theorem dX6_signed_3 : decode cX6_signed 3 = .ok (.iconst 0, 1) := by decide +kernel
theorem dX6_signed_4 : decode cX6_signed 4 = .ok (.istore 6, 2) := by decide +kernel
theorem dX6_signed_6 : decode cX6_signed 6 = .ok (.iload 6, 2) := by decide +kernel
theorem dX6_signed_8 : decode cX6_signed 8 = .ok (.iload_n 2, 1) := by decide +kernel
theorem dX6_signed_9 : decode cX6_signed 9 = .ok (.if_icmp .ge 42, 3) := by decide +kernel
theorem dX6_signed_12 : decode cX6_signed 12 = .ok (.ldc2_w 159, 3) := by decide +kernel
theorem dX6_signed_15 : decode cX6_signed 15 = .ok (.lload 4, 2) := by decide +kernel
theorem dX6_signed_17 : decode cX6_signed 17 = .ok (.lmul, 1) := by decide +kernel
theorem dX6_signed_18 : decode cX6_signed 18 = .ok (.aload_n 0, 1) := by decide +kernel
theorem dX6_signed_19 : decode cX6_signed 19 = .ok (.iload_n 3, 1) := by decide +kernel
theorem dX6_signed_20 : decode cX6_signed 20 = .ok (.ifCond .eq 14, 3) := by decide +kernel
theorem dX6_signed_23 : decode cX6_signed 23 = .ok (.iload_n 1, 1) := by decide +kernel
theorem dX6_signed_24 : decode cX6_signed 24 = .ok (.iload_n 2, 1) := by decide +kernel
theorem dX6_signed_25 : decode cX6_signed 25 = .ok (.iadd, 1) := by decide +kernel
theorem dX6_signed_26 : decode cX6_signed 26 = .ok (.iconst 1, 1) := by decide +kernel
theorem dX6_signed_27 : decode cX6_signed 27 = .ok (.isub, 1) := by decide +kernel
theorem dX6_signed_28 : decode cX6_signed 28 = .ok (.iload 6, 2) := by decide +kernel
theorem dX6_signed_30 : decode cX6_signed 30 = .ok (.isub, 1) := by decide +kernel
theorem dX6_signed_31 : decode cX6_signed 31 = .ok (.goto 7, 3) := by decide +kernel
theorem dX6_signed_34 : decode cX6_signed 34 = .ok (.iload_n 1, 1) := by decide +kernel
theorem dX6_signed_35 : decode cX6_signed 35 = .ok (.iload 6, 2) := by decide +kernel
theorem dX6_signed_37 : decode cX6_signed 37 = .ok (.iadd, 1) := by decide +kernel
theorem dX6_signed_38 : decode cX6_signed 38 = .ok (.invokevirtual 63, 3) := by decide +kernel
theorem dX6_signed_41 : decode cX6_signed 41 = .ok (.i2l, 1) := by decide +kernel
theorem dX6_signed_42 : decode cX6_signed 42 = .ok (.ladd, 1) := by decide +kernel
theorem dX6_signed_43 : decode cX6_signed 43 = .ok (.lstore 4, 2) := by decide +kernel
theorem dX6_signed_45 : decode cX6_signed 45 = .ok (.iinc 6 1, 3) := by decide +kernel
theorem dX6_signed_48 : decode cX6_signed 48 = .ok (.goto (-42), 3) := by decide +kernel
theorem dX6_signed_51 : decode cX6_signed 51 = .ok (.lconst 1, 1) := by decide +kernel
theorem dX6_signed_52 : decode cX6_signed 52 = .ok (.lstore 6, 2) := by decide +kernel
theorem dX6_signed_54 : decode cX6_signed 54 = .ok (.iconst 1, 1) := by decide +kernel
theorem dX6_signed_55 : decode cX6_signed 55 = .ok (.istore 8, 2) := by decide +kernel
theorem dX6_signed_57 : decode cX6_signed 57 = .ok (.iload 8, 2) := by decide +kernel
theorem dX6_signed_59 : decode cX6_signed 59 = .ok (.bipush 8, 2) := by decide +kernel
theorem dX6_signed_61 : decode cX6_signed 61 = .ok (.iload_n 2, 1) := by decide +kernel
theorem dX6_signed_62 : decode cX6_signed 62 = .ok (.imul, 1) := by decide +kernel
theorem dX6_signed_63 : decode cX6_signed 63 = .ok (.if_icmp .ge 17, 3) := by decide +kernel
theorem dX6_signed_66 : decode cX6_signed 66 = .ok (.ldc2_w 161, 3) := by decide +kernel
theorem dX6_signed_69 : decode cX6_signed 69 = .ok (.lload 6, 2) := by decide +kernel
theorem dX6_signed_71 : decode cX6_signed 71 = .ok (.lmul, 1) := by decide +kernel
theorem dX6_signed_72 : decode cX6_signed 72 = .ok (.lstore 6, 2) := by decide +kernel
theorem dX6_signed_74 : decode cX6_signed 74 = .ok (.iinc 8 1, 3) := by decide +kernel
theorem dX6_signed_77 : decode cX6_signed 77 = .ok (.goto (-20), 3) := by decide +kernel
theorem dX6_signed_80 : decode cX6_signed 80 = .ok (.lload 4, 2) := by decide +kernel
theorem dX6_signed_82 : decode cX6_signed 82 = .ok (.lload 6, 2) := by decide +kernel
theorem dX6_signed_84 : decode cX6_signed 84 = .ok (.lcmp, 1) := by decide +kernel
theorem dX6_signed_85 : decode cX6_signed 85 = .ok (.ifCond .lt 15, 3) := by decide +kernel
theorem dX6_signed_88 : decode cX6_signed 88 = .ok (.lload 4, 2) := by decide +kernel
theorem dX6_signed_90 : decode cX6_signed 90 = .ok (.ldc2_w 161, 3) := by decide +kernel
theorem dX6_signed_93 : decode cX6_signed 93 = .ok (.lload 6, 2) := by decide +kernel
theorem dX6_signed_95 : decode cX6_signed 95 = .ok (.lmul, 1) := by decide +kernel
theorem dX6_signed_96 : decode cX6_signed 96 = .ok (.lsub, 1) := by decide +kernel
theorem dX6_signed_97 : decode cX6_signed 97 = .ok (.goto 5, 3) := by decide +kernel
theorem dX6_signed_100 : decode cX6_signed 100 = .ok (.lload 4, 2) := by decide +kernel
theorem dX6_signed_102 : decode cX6_signed 102 = .ok (.lreturn, 1) := by decide +kernel
theorem dX6_power_0 : decode cX6_power 0 = .ok (.dconst 1, 1) := by decide +kernel
theorem dX6_power_1 : decode cX6_power 1 = .ok (.dstore_n 1, 1) := by decide +kernel
theorem dX6_power_2 : decode cX6_power 2 = .ok (.iconst 0, 1) := by decide +kernel
theorem dX6_power_3 : decode cX6_power 3 = .ok (.istore_n 3, 1) := by decide +kernel
theorem dX6_power_4 : decode cX6_power 4 = .ok (.iload_n 3, 1) := by decide +kernel
theorem dX6_power_5 : decode cX6_power 5 = .ok (.iload_n 0, 1) := by decide +kernel
theorem dX6_power_6 : decode cX6_power 6 = .ok (.if_icmp .ge 15, 3) := by decide +kernel
theorem dX6_power_9 : decode cX6_power 9 = .ok (.dload_n 1, 1) := by decide +kernel
theorem dX6_power_10 : decode cX6_power 10 = .ok (.ldc2_w 163, 3) := by decide +kernel
theorem dX6_power_13 : decode cX6_power 13 = .ok (.dmul, 1) := by decide +kernel
theorem dX6_power_14 : decode cX6_power 14 = .ok (.dstore_n 1, 1) := by decide +kernel
theorem dX6_power_15 : decode cX6_power 15 = .ok (.iinc 3 1, 3) := by decide +kernel
theorem dX6_power_18 : decode cX6_power 18 = .ok (.goto (-14), 3) := by decide +kernel
theorem dX6_power_21 : decode cX6_power 21 = .ok (.iconst 0, 1) := by decide +kernel
theorem dX6_power_22 : decode cX6_power 22 = .ok (.istore_n 3, 1) := by decide +kernel
theorem dX6_power_23 : decode cX6_power 23 = .ok (.iload_n 3, 1) := by decide +kernel
theorem dX6_power_24 : decode cX6_power 24 = .ok (.iload_n 0, 1) := by decide +kernel
theorem dX6_power_25 : decode cX6_power 25 = .ok (.if_icmp .le 15, 3) := by decide +kernel
theorem dX6_power_28 : decode cX6_power 28 = .ok (.dload_n 1, 1) := by decide +kernel
theorem dX6_power_29 : decode cX6_power 29 = .ok (.ldc2_w 163, 3) := by decide +kernel
theorem dX6_power_32 : decode cX6_power 32 = .ok (.ddiv, 1) := by decide +kernel
theorem dX6_power_33 : decode cX6_power 33 = .ok (.dstore_n 1, 1) := by decide +kernel
theorem dX6_power_34 : decode cX6_power 34 = .ok (.iinc 3 (-1), 3) := by decide +kernel
theorem dX6_power_37 : decode cX6_power 37 = .ok (.goto (-14), 3) := by decide +kernel
theorem dX6_power_40 : decode cX6_power 40 = .ok (.dload_n 1, 1) := by decide +kernel
theorem dX6_power_41 : decode cX6_power 41 = .ok (.dreturn, 1) := by decide +kernel
theorem dX6_four_0 : decode cX6_four 0 = .ok (.aload_n 0, 1) := by decide +kernel
theorem dX6_four_1 : decode cX6_four 1 = .ok (.iload_n 1, 1) := by decide +kernel
theorem dX6_four_2 : decode cX6_four 2 = .ok (.iconst 4, 1) := by decide +kernel
theorem dX6_four_3 : decode cX6_four 3 = .ok (.iload_n 2, 1) := by decide +kernel
theorem dX6_four_4 : decode cX6_four 4 = .ok (.invokevirtual 165, 3) := by decide +kernel
theorem dX6_four_7 : decode cX6_four 7 = .ok (.lstore_n 3, 1) := by decide +kernel
theorem dX6_four_8 : decode cX6_four 8 = .ok (.lload_n 3, 1) := by decide +kernel
theorem dX6_four_9 : decode cX6_four 9 = .ok (.lconst 0, 1) := by decide +kernel
theorem dX6_four_10 : decode cX6_four 10 = .ok (.lcmp, 1) := by decide +kernel
theorem dX6_four_11 : decode cX6_four 11 = .ok (.ifCond .ge 7, 3) := by decide +kernel
theorem dX6_four_14 : decode cX6_four 14 = .ok (.iconst 1, 1) := by decide +kernel
theorem dX6_four_15 : decode cX6_four 15 = .ok (.goto 4, 3) := by decide +kernel
theorem dX6_four_18 : decode cX6_four 18 = .ok (.iconst 0, 1) := by decide +kernel
theorem dX6_four_19 : decode cX6_four 19 = .ok (.istore 5, 2) := by decide +kernel
theorem dX6_four_21 : decode cX6_four 21 = .ok (.lload_n 3, 1) := by decide +kernel
theorem dX6_four_22 : decode cX6_four 22 = .ok (.bipush 23, 2) := by decide +kernel
theorem dX6_four_24 : decode cX6_four 24 = .ok (.lshr, 1) := by decide +kernel
theorem dX6_four_25 : decode cX6_four 25 = .ok (.ldc2_w 141, 3) := by decide +kernel
theorem dX6_four_28 : decode cX6_four 28 = .ok (.land, 1) := by decide +kernel
theorem dX6_four_29 : decode cX6_four 29 = .ok (.l2i, 1) := by decide +kernel
theorem dX6_four_30 : decode cX6_four 30 = .ok (.istore 6, 2) := by decide +kernel
theorem dX6_four_32 : decode cX6_four 32 = .ok (.lload_n 3, 1) := by decide +kernel
theorem dX6_four_33 : decode cX6_four 33 = .ok (.ldc2_w 169, 3) := by decide +kernel
theorem dX6_four_36 : decode cX6_four 36 = .ok (.land, 1) := by decide +kernel
theorem dX6_four_37 : decode cX6_four 37 = .ok (.lstore 7, 2) := by decide +kernel
theorem dX6_four_39 : decode cX6_four 39 = .ok (.aload_n 0, 1) := by decide +kernel
theorem dX6_four_40 : decode cX6_four 40 = .ok (.aload_n 0, 1) := by decide +kernel
theorem dX6_four_41 : decode cX6_four 41 = .ok (.getfield 171, 3) := by decide +kernel
theorem dX6_four_44 : decode cX6_four 44 = .ok (.ifCond .ne 11, 3) := by decide +kernel
theorem dX6_four_47 : decode cX6_four 47 = .ok (.iload 6, 2) := by decide +kernel
theorem dX6_four_49 : decode cX6_four 49 = .ok (.sipush 255, 3) := by decide +kernel
theorem dX6_four_52 : decode cX6_four 52 = .ok (.if_icmp .ne 7, 3) := by decide +kernel
theorem dX6_four_55 : decode cX6_four 55 = .ok (.iconst 1, 1) := by decide +kernel
theorem dX6_four_56 : decode cX6_four 56 = .ok (.goto 4, 3) := by decide +kernel
theorem dX6_four_59 : decode cX6_four 59 = .ok (.iconst 0, 1) := by decide +kernel
theorem dX6_four_60 : decode cX6_four 60 = .ok (.putfield 171, 3) := by decide +kernel
theorem dX6_four_63 : decode cX6_four 63 = .ok (.iload 6, 2) := by decide +kernel
theorem dX6_four_65 : decode cX6_four 65 = .ok (.ifCond .ne 16, 3) := by decide +kernel
theorem dX6_four_68 : decode cX6_four 68 = .ok (.lload 7, 2) := by decide +kernel
theorem dX6_four_70 : decode cX6_four 70 = .ok (.l2d, 1) := by decide +kernel
theorem dX6_four_71 : decode cX6_four 71 = .ok (.sipush (-149), 3) := by decide +kernel
theorem dX6_four_74 : decode cX6_four 74 = .ok (.invokestatic 174, 3) := by decide +kernel
theorem dX6_four_77 : decode cX6_four 77 = .ok (.dmul, 1) := by decide +kernel
theorem dX6_four_78 : decode cX6_four 78 = .ok (.goto 20, 3) := by decide +kernel
theorem dX6_four_81 : decode cX6_four 81 = .ok (.ldc2_w 178, 3) := by decide +kernel
theorem dX6_four_84 : decode cX6_four 84 = .ok (.lload 7, 2) := by decide +kernel
theorem dX6_four_86 : decode cX6_four 86 = .ok (.ladd, 1) := by decide +kernel
theorem dX6_four_87 : decode cX6_four 87 = .ok (.l2d, 1) := by decide +kernel
theorem dX6_four_88 : decode cX6_four 88 = .ok (.iload 6, 2) := by decide +kernel
theorem dX6_four_90 : decode cX6_four 90 = .ok (.sipush 150, 3) := by decide +kernel
theorem dX6_four_93 : decode cX6_four 93 = .ok (.isub, 1) := by decide +kernel
theorem dX6_four_94 : decode cX6_four 94 = .ok (.invokestatic 174, 3) := by decide +kernel
theorem dX6_four_97 : decode cX6_four 97 = .ok (.dmul, 1) := by decide +kernel
theorem dX6_four_98 : decode cX6_four 98 = .ok (.dstore 9, 2) := by decide +kernel
theorem dX6_four_100 : decode cX6_four 100 = .ok (.iload 5, 2) := by decide +kernel
theorem dX6_four_102 : decode cX6_four 102 = .ok (.ifCond .eq 10, 3) := by decide +kernel
theorem dX6_four_105 : decode cX6_four 105 = .ok (.dconst 0, 1) := by decide +kernel
theorem dX6_four_106 : decode cX6_four 106 = .ok (.dload 9, 2) := by decide +kernel
theorem dX6_four_108 : decode cX6_four 108 = .ok (.dsub, 1) := by decide +kernel
theorem dX6_four_109 : decode cX6_four 109 = .ok (.goto 5, 3) := by decide +kernel
theorem dX6_four_112 : decode cX6_four 112 = .ok (.dload 9, 2) := by decide +kernel
theorem dX6_four_114 : decode cX6_four 114 = .ok (.dreturn, 1) := by decide +kernel
theorem dX6_came_0 : decode cX6_came 0 = .ok (.aload_n 0, 1) := by decide +kernel
theorem dX6_came_1 : decode cX6_came 1 = .ok (.getfield 135, 3) := by decide +kernel
theorem dX6_came_4 : decode cX6_came 4 = .ok (.iload_n 1, 1) := by decide +kernel
theorem dX6_came_5 : decode cX6_came 5 = .ok (.iadd, 1) := by decide +kernel
theorem dX6_came_6 : decode cX6_came 6 = .ok (.aload_n 0, 1) := by decide +kernel
theorem dX6_came_7 : decode cX6_came 7 = .ok (.getfield 40, 3) := by decide +kernel
theorem dX6_came_10 : decode cX6_came 10 = .ok (.if_icmp .gt 7, 3) := by decide +kernel
theorem dX6_came_13 : decode cX6_came 13 = .ok (.iconst 1, 1) := by decide +kernel
theorem dX6_came_14 : decode cX6_came 14 = .ok (.goto 4, 3) := by decide +kernel
theorem dX6_came_17 : decode cX6_came 17 = .ok (.iconst 0, 1) := by decide +kernel
theorem dX6_came_18 : decode cX6_came 18 = .ok (.ireturn, 1) := by decide +kernel
theorem dX6_number_0 : decode cX6_number 0 = .ok (.aload_n 0, 1) := by decide +kernel
theorem dX6_number_1 : decode cX6_number 1 = .ok (.iconst 1, 1) := by decide +kernel
theorem dX6_number_2 : decode cX6_number 2 = .ok (.iload_n 1, 1) := by decide +kernel
theorem dX6_number_3 : decode cX6_number 3 = .ok (.iadd, 1) := by decide +kernel
theorem dX6_number_4 : decode cX6_number 4 = .ok (.invokevirtual 180, 3) := by decide +kernel
theorem dX6_number_7 : decode cX6_number 7 = .ok (.ifCond .ne 8, 3) := by decide +kernel
theorem dX6_number_10 : decode cX6_number 10 = .ok (.aload_n 0, 1) := by decide +kernel
theorem dX6_number_11 : decode cX6_number 11 = .ok (.invokevirtual 132, 3) := by decide +kernel
theorem dX6_number_14 : decode cX6_number 14 = .ok (.ireturn, 1) := by decide +kernel
theorem dX6_number_15 : decode cX6_number 15 = .ok (.aload_n 0, 1) := by decide +kernel
theorem dX6_number_16 : decode cX6_number 16 = .ok (.aload_n 0, 1) := by decide +kernel
theorem dX6_number_17 : decode cX6_number 17 = .ok (.aload_n 0, 1) := by decide +kernel
theorem dX6_number_18 : decode cX6_number 18 = .ok (.getfield 102, 3) := by decide +kernel
theorem dX6_number_21 : decode cX6_number 21 = .ok (.iconst 1, 1) := by decide +kernel
theorem dX6_number_22 : decode cX6_number 22 = .ok (.iadd, 1) := by decide +kernel
theorem dX6_number_23 : decode cX6_number 23 = .ok (.iload_n 1, 1) := by decide +kernel
theorem dX6_number_24 : decode cX6_number 24 = .ok (.iload_n 2, 1) := by decide +kernel
theorem dX6_number_25 : decode cX6_number 25 = .ok (.invokevirtual 165, 3) := by decide +kernel
theorem dX6_number_28 : decode cX6_number 28 = .ok (.putfield 77, 3) := by decide +kernel
theorem dX6_number_31 : decode cX6_number 31 = .ok (.aload_n 0, 1) := by decide +kernel
theorem dX6_number_32 : decode cX6_number 32 = .ok (.aload_n 0, 1) := by decide +kernel
theorem dX6_number_33 : decode cX6_number 33 = .ok (.getfield 102, 3) := by decide +kernel
theorem dX6_number_36 : decode cX6_number 36 = .ok (.iconst 1, 1) := by decide +kernel
theorem dX6_number_37 : decode cX6_number 37 = .ok (.iadd, 1) := by decide +kernel
theorem dX6_number_38 : decode cX6_number 38 = .ok (.iload_n 1, 1) := by decide +kernel
theorem dX6_number_39 : decode cX6_number 39 = .ok (.iadd, 1) := by decide +kernel
theorem dX6_number_40 : decode cX6_number 40 = .ok (.putfield 102, 3) := by decide +kernel
theorem dX6_number_43 : decode cX6_number 43 = .ok (.bipush (-99), 2) := by decide +kernel
theorem dX6_number_45 : decode cX6_number 45 = .ok (.ireturn, 1) := by decide +kernel
theorem dX6_fixed_0 : decode cX6_fixed 0 = .ok (.aload_n 0, 1) := by decide +kernel
theorem dX6_fixed_1 : decode cX6_fixed 1 = .ok (.iconst 2, 1) := by decide +kernel
theorem dX6_fixed_2 : decode cX6_fixed 2 = .ok (.invokevirtual 180, 3) := by decide +kernel
theorem dX6_fixed_5 : decode cX6_fixed 5 = .ok (.ifCond .ne 8, 3) := by decide +kernel
theorem dX6_fixed_8 : decode cX6_fixed 8 = .ok (.aload_n 0, 1) := by decide +kernel
theorem dX6_fixed_9 : decode cX6_fixed 9 = .ok (.invokevirtual 132, 3) := by decide +kernel
theorem dX6_fixed_12 : decode cX6_fixed 12 = .ok (.ireturn, 1) := by decide +kernel
theorem dX6_fixed_13 : decode cX6_fixed 13 = .ok (.aload_n 0, 1) := by decide +kernel
theorem dX6_fixed_14 : decode cX6_fixed 14 = .ok (.aload_n 0, 1) := by decide +kernel
theorem dX6_fixed_15 : decode cX6_fixed 15 = .ok (.getfield 102, 3) := by decide +kernel
theorem dX6_fixed_18 : decode cX6_fixed 18 = .ok (.iconst 1, 1) := by decide +kernel
theorem dX6_fixed_19 : decode cX6_fixed 19 = .ok (.iadd, 1) := by decide +kernel
theorem dX6_fixed_20 : decode cX6_fixed 20 = .ok (.invokevirtual 63, 3) := by decide +kernel
theorem dX6_fixed_23 : decode cX6_fixed 23 = .ok (.istore_n 1, 1) := by decide +kernel
theorem dX6_fixed_24 : decode cX6_fixed 24 = .ok (.iload_n 1, 1) := by decide +kernel
theorem dX6_fixed_25 : decode cX6_fixed 25 = .ok (.bipush 127, 2) := by decide +kernel
theorem dX6_fixed_27 : decode cX6_fixed 27 = .ok (.if_icmp .le 7, 3) := by decide +kernel
theorem dX6_fixed_30 : decode cX6_fixed 30 = .ok (.iconst 1, 1) := by decide +kernel
theorem dX6_fixed_31 : decode cX6_fixed 31 = .ok (.goto 4, 3) := by decide +kernel
theorem dX6_fixed_34 : decode cX6_fixed 34 = .ok (.iconst 0, 1) := by decide +kernel
theorem dX6_fixed_35 : decode cX6_fixed 35 = .ok (.istore_n 2, 1) := by decide +kernel
theorem dX6_fixed_36 : decode cX6_fixed 36 = .ok (.iload_n 2, 1) := by decide +kernel
theorem dX6_fixed_37 : decode cX6_fixed 37 = .ok (.ifCond .eq 11, 3) := by decide +kernel
theorem dX6_fixed_40 : decode cX6_fixed 40 = .ok (.iload_n 1, 1) := by decide +kernel
theorem dX6_fixed_41 : decode cX6_fixed 41 = .ok (.sipush 128, 3) := by decide +kernel
theorem dX6_fixed_44 : decode cX6_fixed 44 = .ok (.isub, 1) := by decide +kernel
theorem dX6_fixed_45 : decode cX6_fixed 45 = .ok (.goto 4, 3) := by decide +kernel
theorem dX6_fixed_48 : decode cX6_fixed 48 = .ok (.iload_n 1, 1) := by decide +kernel
theorem dX6_fixed_49 : decode cX6_fixed 49 = .ok (.istore_n 3, 1) := by decide +kernel
theorem dX6_fixed_50 : decode cX6_fixed 50 = .ok (.iload_n 3, 1) := by decide +kernel
theorem dX6_fixed_51 : decode cX6_fixed 51 = .ok (.bipush 47, 2) := by decide +kernel
theorem dX6_fixed_53 : decode cX6_fixed 53 = .ok (.if_icmp .le 19, 3) := by decide +kernel
theorem dX6_fixed_56 : decode cX6_fixed 56 = .ok (.aload_n 0, 1) := by decide +kernel
theorem dX6_fixed_57 : decode cX6_fixed 57 = .ok (.dup, 1) := by decide +kernel
theorem dX6_fixed_58 : decode cX6_fixed 58 = .ok (.getfield 102, 3) := by decide +kernel
theorem dX6_fixed_61 : decode cX6_fixed 61 = .ok (.iconst 1, 1) := by decide +kernel
theorem dX6_fixed_62 : decode cX6_fixed 62 = .ok (.iadd, 1) := by decide +kernel
theorem dX6_fixed_63 : decode cX6_fixed 63 = .ok (.putfield 102, 3) := by decide +kernel
theorem dX6_fixed_66 : decode cX6_fixed 66 = .ok (.aload_n 0, 1) := by decide +kernel
theorem dX6_fixed_67 : decode cX6_fixed 67 = .ok (.iconst 4, 1) := by decide +kernel
theorem dX6_fixed_68 : decode cX6_fixed 68 = .ok (.invokevirtual 138, 3) := by decide +kernel
theorem dX6_fixed_71 : decode cX6_fixed 71 = .ok (.ireturn, 1) := by decide +kernel
theorem dX6_fixed_72 : decode cX6_fixed 72 = .ok (.iload_n 3, 1) := by decide +kernel
theorem dX6_fixed_73 : decode cX6_fixed 73 = .ok (.bipush 32, 2) := by decide +kernel
theorem dX6_fixed_75 : decode cX6_fixed 75 = .ok (.if_icmp .ge 7, 3) := by decide +kernel
theorem dX6_fixed_78 : decode cX6_fixed 78 = .ok (.iconst 4, 1) := by decide +kernel
theorem dX6_fixed_79 : decode cX6_fixed 79 = .ok (.goto 4, 3) := by decide +kernel
theorem dX6_fixed_82 : decode cX6_fixed 82 = .ok (.iconst 2, 1) := by decide +kernel
theorem dX6_fixed_83 : decode cX6_fixed 83 = .ok (.istore 4, 2) := by decide +kernel
theorem dX6_fixed_85 : decode cX6_fixed 85 = .ok (.aload_n 0, 1) := by decide +kernel
theorem dX6_fixed_86 : decode cX6_fixed 86 = .ok (.iconst 2, 1) := by decide +kernel
theorem dX6_fixed_87 : decode cX6_fixed 87 = .ok (.iload 4, 2) := by decide +kernel
theorem dX6_fixed_89 : decode cX6_fixed 89 = .ok (.iadd, 1) := by decide +kernel
theorem dX6_fixed_90 : decode cX6_fixed 90 = .ok (.invokevirtual 180, 3) := by decide +kernel
theorem dX6_fixed_93 : decode cX6_fixed 93 = .ok (.ifCond .ne 8, 3) := by decide +kernel
theorem dX6_fixed_96 : decode cX6_fixed 96 = .ok (.aload_n 0, 1) := by decide +kernel
theorem dX6_fixed_97 : decode cX6_fixed 97 = .ok (.invokevirtual 132, 3) := by decide +kernel
theorem dX6_fixed_100 : decode cX6_fixed 100 = .ok (.ireturn, 1) := by decide +kernel
theorem dX6_fixed_101 : decode cX6_fixed 101 = .ok (.aload_n 0, 1) := by decide +kernel
theorem dX6_fixed_102 : decode cX6_fixed 102 = .ok (.aload_n 0, 1) := by decide +kernel
theorem dX6_fixed_103 : decode cX6_fixed 103 = .ok (.aload_n 0, 1) := by decide +kernel
theorem dX6_fixed_104 : decode cX6_fixed 104 = .ok (.getfield 102, 3) := by decide +kernel
theorem dX6_fixed_107 : decode cX6_fixed 107 = .ok (.iconst 2, 1) := by decide +kernel
theorem dX6_fixed_108 : decode cX6_fixed 108 = .ok (.iadd, 1) := by decide +kernel
theorem dX6_fixed_109 : decode cX6_fixed 109 = .ok (.iload 4, 2) := by decide +kernel
theorem dX6_fixed_111 : decode cX6_fixed 111 = .ok (.iload_n 2, 1) := by decide +kernel
theorem dX6_fixed_112 : decode cX6_fixed 112 = .ok (.invokevirtual 165, 3) := by decide +kernel
theorem dX6_fixed_115 : decode cX6_fixed 115 = .ok (.l2d, 1) := by decide +kernel
theorem dX6_fixed_116 : decode cX6_fixed 116 = .ok (.iload_n 3, 1) := by decide +kernel
theorem dX6_fixed_117 : decode cX6_fixed 117 = .ok (.bipush 32, 2) := by decide +kernel
theorem dX6_fixed_119 : decode cX6_fixed 119 = .ok (.if_icmp .ge 7, 3) := by decide +kernel
theorem dX6_fixed_122 : decode cX6_fixed 122 = .ok (.iload_n 3, 1) := by decide +kernel
theorem dX6_fixed_123 : decode cX6_fixed 123 = .ok (.goto 7, 3) := by decide +kernel
theorem dX6_fixed_126 : decode cX6_fixed 126 = .ok (.iload_n 3, 1) := by decide +kernel
theorem dX6_fixed_127 : decode cX6_fixed 127 = .ok (.bipush 32, 2) := by decide +kernel
theorem dX6_fixed_129 : decode cX6_fixed 129 = .ok (.isub, 1) := by decide +kernel
theorem dX6_fixed_130 : decode cX6_fixed 130 = .ok (.invokestatic 174, 3) := by decide +kernel
theorem dX6_fixed_133 : decode cX6_fixed 133 = .ok (.ddiv, 1) := by decide +kernel
theorem dX6_fixed_134 : decode cX6_fixed 134 = .ok (.putfield 93, 3) := by decide +kernel
theorem dX6_fixed_137 : decode cX6_fixed 137 = .ok (.aload_n 0, 1) := by decide +kernel
theorem dX6_fixed_138 : decode cX6_fixed 138 = .ok (.aload_n 0, 1) := by decide +kernel
theorem dX6_fixed_139 : decode cX6_fixed 139 = .ok (.getfield 102, 3) := by decide +kernel
theorem dX6_fixed_142 : decode cX6_fixed 142 = .ok (.iconst 2, 1) := by decide +kernel
theorem dX6_fixed_143 : decode cX6_fixed 143 = .ok (.iadd, 1) := by decide +kernel
theorem dX6_fixed_144 : decode cX6_fixed 144 = .ok (.iload 4, 2) := by decide +kernel
theorem dX6_fixed_146 : decode cX6_fixed 146 = .ok (.iadd, 1) := by decide +kernel
theorem dX6_fixed_147 : decode cX6_fixed 147 = .ok (.putfield 102, 3) := by decide +kernel
theorem dX6_fixed_150 : decode cX6_fixed 150 = .ok (.iconst 2, 1) := by decide +kernel
theorem dX6_fixed_151 : decode cX6_fixed 151 = .ok (.ireturn, 1) := by decide +kernel
theorem dX6_string_0 : decode cX6_string 0 = .ok (.aload_n 0, 1) := by decide +kernel
theorem dX6_string_1 : decode cX6_string 1 = .ok (.iconst 1, 1) := by decide +kernel
theorem dX6_string_2 : decode cX6_string 2 = .ok (.iload_n 1, 1) := by decide +kernel
theorem dX6_string_3 : decode cX6_string 3 = .ok (.iadd, 1) := by decide +kernel
theorem dX6_string_4 : decode cX6_string 4 = .ok (.invokevirtual 180, 3) := by decide +kernel
theorem dX6_string_7 : decode cX6_string 7 = .ok (.ifCond .ne 8, 3) := by decide +kernel
theorem dX6_string_10 : decode cX6_string 10 = .ok (.aload_n 0, 1) := by decide +kernel
theorem dX6_string_11 : decode cX6_string 11 = .ok (.invokevirtual 132, 3) := by decide +kernel
theorem dX6_string_14 : decode cX6_string 14 = .ok (.ireturn, 1) := by decide +kernel
theorem dX6_string_15 : decode cX6_string 15 = .ok (.aload_n 0, 1) := by decide +kernel
theorem dX6_string_16 : decode cX6_string 16 = .ok (.aload_n 0, 1) := by decide +kernel
theorem dX6_string_17 : decode cX6_string 17 = .ok (.getfield 102, 3) := by decide +kernel
theorem dX6_string_20 : decode cX6_string 20 = .ok (.iconst 1, 1) := by decide +kernel
theorem dX6_string_21 : decode cX6_string 21 = .ok (.iadd, 1) := by decide +kernel
theorem dX6_string_22 : decode cX6_string 22 = .ok (.invokevirtual 63, 3) := by decide +kernel
theorem dX6_string_25 : decode cX6_string 25 = .ok (.istore_n 3, 1) := by decide +kernel
theorem dX6_string_26 : decode cX6_string 26 = .ok (.iload_n 1, 1) := by decide +kernel
theorem dX6_string_27 : decode cX6_string 27 = .ok (.iconst 1, 1) := by decide +kernel
theorem dX6_string_28 : decode cX6_string 28 = .ok (.if_icmp .ne 7, 3) := by decide +kernel
theorem dX6_string_31 : decode cX6_string 31 = .ok (.iload_n 3, 1) := by decide +kernel
theorem dX6_string_32 : decode cX6_string 32 = .ok (.goto 42, 3) := by decide +kernel
theorem dX6_string_35 : decode cX6_string 35 = .ok (.iload_n 2, 1) := by decide +kernel
theorem dX6_string_36 : decode cX6_string 36 = .ok (.ifCond .eq 22, 3) := by decide +kernel
theorem dX6_string_39 : decode cX6_string 39 = .ok (.iload_n 3, 1) := by decide +kernel
theorem dX6_string_40 : decode cX6_string 40 = .ok (.sipush 256, 3) := by decide +kernel
theorem dX6_string_43 : decode cX6_string 43 = .ok (.aload_n 0, 1) := by decide +kernel
theorem dX6_string_44 : decode cX6_string 44 = .ok (.aload_n 0, 1) := by decide +kernel
theorem dX6_string_45 : decode cX6_string 45 = .ok (.getfield 102, 3) := by decide +kernel
theorem dX6_string_48 : decode cX6_string 48 = .ok (.iconst 2, 1) := by decide +kernel
theorem dX6_string_49 : decode cX6_string 49 = .ok (.iadd, 1) := by decide +kernel
theorem dX6_string_50 : decode cX6_string 50 = .ok (.invokevirtual 63, 3) := by decide +kernel
theorem dX6_string_53 : decode cX6_string 53 = .ok (.imul, 1) := by decide +kernel
theorem dX6_string_54 : decode cX6_string 54 = .ok (.iadd, 1) := by decide +kernel
theorem dX6_string_55 : decode cX6_string 55 = .ok (.goto 19, 3) := by decide +kernel
theorem dX6_string_58 : decode cX6_string 58 = .ok (.sipush 256, 3) := by decide +kernel
theorem dX6_string_61 : decode cX6_string 61 = .ok (.iload_n 3, 1) := by decide +kernel
theorem dX6_string_62 : decode cX6_string 62 = .ok (.imul, 1) := by decide +kernel
theorem dX6_string_63 : decode cX6_string 63 = .ok (.aload_n 0, 1) := by decide +kernel
theorem dX6_string_64 : decode cX6_string 64 = .ok (.aload_n 0, 1) := by decide +kernel
theorem dX6_string_65 : decode cX6_string 65 = .ok (.getfield 102, 3) := by decide +kernel
theorem dX6_string_68 : decode cX6_string 68 = .ok (.iconst 2, 1) := by decide +kernel
theorem dX6_string_69 : decode cX6_string 69 = .ok (.iadd, 1) := by decide +kernel
theorem dX6_string_70 : decode cX6_string 70 = .ok (.invokevirtual 63, 3) := by decide +kernel
theorem dX6_string_73 : decode cX6_string 73 = .ok (.iadd, 1) := by decide +kernel
theorem dX6_string_74 : decode cX6_string 74 = .ok (.istore_n 3, 1) := by decide +kernel
theorem dX6_string_75 : decode cX6_string 75 = .ok (.aload_n 0, 1) := by decide +kernel
theorem dX6_string_76 : decode cX6_string 76 = .ok (.iconst 1, 1) := by decide +kernel
theorem dX6_string_77 : decode cX6_string 77 = .ok (.iload_n 1, 1) := by decide +kernel
theorem dX6_string_78 : decode cX6_string 78 = .ok (.iadd, 1) := by decide +kernel
theorem dX6_string_79 : decode cX6_string 79 = .ok (.iload_n 3, 1) := by decide +kernel
theorem dX6_string_80 : decode cX6_string 80 = .ok (.iadd, 1) := by decide +kernel
theorem dX6_string_81 : decode cX6_string 81 = .ok (.invokevirtual 180, 3) := by decide +kernel
theorem dX6_string_84 : decode cX6_string 84 = .ok (.ifCond .ne 8, 3) := by decide +kernel
theorem dX6_string_87 : decode cX6_string 87 = .ok (.aload_n 0, 1) := by decide +kernel
theorem dX6_string_88 : decode cX6_string 88 = .ok (.invokevirtual 132, 3) := by decide +kernel
theorem dX6_string_91 : decode cX6_string 91 = .ok (.ireturn, 1) := by decide +kernel
theorem dX6_string_92 : decode cX6_string 92 = .ok (.iconst 0, 1) := by decide +kernel
theorem dX6_string_93 : decode cX6_string 93 = .ok (.istore 4, 2) := by decide +kernel
theorem dX6_string_95 : decode cX6_string 95 = .ok (.iload 4, 2) := by decide +kernel
theorem dX6_string_97 : decode cX6_string 97 = .ok (.iload_n 3, 1) := by decide +kernel
theorem dX6_string_98 : decode cX6_string 98 = .ok (.if_icmp .ge 28, 3) := by decide +kernel
theorem dX6_string_101 : decode cX6_string 101 = .ok (.aload_n 0, 1) := by decide +kernel
theorem dX6_string_102 : decode cX6_string 102 = .ok (.aload_n 0, 1) := by decide +kernel
theorem dX6_string_103 : decode cX6_string 103 = .ok (.aload_n 0, 1) := by decide +kernel
theorem dX6_string_104 : decode cX6_string 104 = .ok (.getfield 102, 3) := by decide +kernel
theorem dX6_string_107 : decode cX6_string 107 = .ok (.iconst 1, 1) := by decide +kernel
theorem dX6_string_108 : decode cX6_string 108 = .ok (.iadd, 1) := by decide +kernel
theorem dX6_string_109 : decode cX6_string 109 = .ok (.iload_n 1, 1) := by decide +kernel
theorem dX6_string_110 : decode cX6_string 110 = .ok (.iadd, 1) := by decide +kernel
theorem dX6_string_111 : decode cX6_string 111 = .ok (.iload 4, 2) := by decide +kernel
theorem dX6_string_113 : decode cX6_string 113 = .ok (.iadd, 1) := by decide +kernel
theorem dX6_string_114 : decode cX6_string 114 = .ok (.invokevirtual 63, 3) := by decide +kernel
theorem dX6_string_117 : decode cX6_string 117 = .ok (.invokevirtual 122, 3) := by decide +kernel
theorem dX6_string_120 : decode cX6_string 120 = .ok (.iinc 4 1, 3) := by decide +kernel
theorem dX6_string_123 : decode cX6_string 123 = .ok (.goto (-28), 3) := by decide +kernel
theorem dX6_string_126 : decode cX6_string 126 = .ok (.aload_n 0, 1) := by decide +kernel
theorem dX6_string_127 : decode cX6_string 127 = .ok (.aload_n 0, 1) := by decide +kernel
theorem dX6_string_128 : decode cX6_string 128 = .ok (.getfield 102, 3) := by decide +kernel
theorem dX6_string_131 : decode cX6_string 131 = .ok (.iconst 1, 1) := by decide +kernel
theorem dX6_string_132 : decode cX6_string 132 = .ok (.iadd, 1) := by decide +kernel
theorem dX6_string_133 : decode cX6_string 133 = .ok (.iload_n 1, 1) := by decide +kernel
theorem dX6_string_134 : decode cX6_string 134 = .ok (.iadd, 1) := by decide +kernel
theorem dX6_string_135 : decode cX6_string 135 = .ok (.iload_n 3, 1) := by decide +kernel
theorem dX6_string_136 : decode cX6_string 136 = .ok (.iadd, 1) := by decide +kernel
theorem dX6_string_137 : decode cX6_string 137 = .ok (.putfield 102, 3) := by decide +kernel
theorem dX6_string_140 : decode cX6_string 140 = .ok (.aload_n 0, 1) := by decide +kernel
theorem dX6_string_141 : decode cX6_string 141 = .ok (.invokevirtual 129, 3) := by decide +kernel
theorem dX6_string_144 : decode cX6_string 144 = .ok (.ireturn, 1) := by decide +kernel
theorem dX6_rows_0 : decode cX6_rows 0 = .ok (.aload_n 0, 1) := by decide +kernel
theorem dX6_rows_1 : decode cX6_rows 1 = .ok (.iconst 2, 1) := by decide +kernel
theorem dX6_rows_2 : decode cX6_rows 2 = .ok (.invokevirtual 180, 3) := by decide +kernel
theorem dX6_rows_5 : decode cX6_rows 5 = .ok (.ifCond .ne 8, 3) := by decide +kernel
theorem dX6_rows_8 : decode cX6_rows 8 = .ok (.aload_n 0, 1) := by decide +kernel
theorem dX6_rows_9 : decode cX6_rows 9 = .ok (.invokevirtual 132, 3) := by decide +kernel
theorem dX6_rows_12 : decode cX6_rows 12 = .ok (.ireturn, 1) := by decide +kernel
theorem dX6_rows_13 : decode cX6_rows 13 = .ok (.aload_n 0, 1) := by decide +kernel
theorem dX6_rows_14 : decode cX6_rows 14 = .ok (.aload_n 0, 1) := by decide +kernel
theorem dX6_rows_15 : decode cX6_rows 15 = .ok (.getfield 102, 3) := by decide +kernel
theorem dX6_rows_18 : decode cX6_rows 18 = .ok (.iconst 1, 1) := by decide +kernel
theorem dX6_rows_19 : decode cX6_rows 19 = .ok (.iadd, 1) := by decide +kernel
theorem dX6_rows_20 : decode cX6_rows 20 = .ok (.invokevirtual 63, 3) := by decide +kernel
theorem dX6_rows_23 : decode cX6_rows 23 = .ok (.istore_n 1, 1) := by decide +kernel
theorem dX6_rows_24 : decode cX6_rows 24 = .ok (.iload_n 1, 1) := by decide +kernel
theorem dX6_rows_25 : decode cX6_rows 25 = .ok (.bipush 127, 2) := by decide +kernel
theorem dX6_rows_27 : decode cX6_rows 27 = .ok (.if_icmp .le 7, 3) := by decide +kernel
theorem dX6_rows_30 : decode cX6_rows 30 = .ok (.iconst 1, 1) := by decide +kernel
theorem dX6_rows_31 : decode cX6_rows 31 = .ok (.goto 4, 3) := by decide +kernel
theorem dX6_rows_34 : decode cX6_rows 34 = .ok (.iconst 0, 1) := by decide +kernel
theorem dX6_rows_35 : decode cX6_rows 35 = .ok (.istore_n 2, 1) := by decide +kernel
theorem dX6_rows_36 : decode cX6_rows 36 = .ok (.iload_n 2, 1) := by decide +kernel
theorem dX6_rows_37 : decode cX6_rows 37 = .ok (.ifCond .eq 11, 3) := by decide +kernel
theorem dX6_rows_40 : decode cX6_rows 40 = .ok (.iload_n 1, 1) := by decide +kernel
theorem dX6_rows_41 : decode cX6_rows 41 = .ok (.sipush 128, 3) := by decide +kernel
theorem dX6_rows_44 : decode cX6_rows 44 = .ok (.isub, 1) := by decide +kernel
theorem dX6_rows_45 : decode cX6_rows 45 = .ok (.goto 4, 3) := by decide +kernel
theorem dX6_rows_48 : decode cX6_rows 48 = .ok (.iload_n 1, 1) := by decide +kernel
theorem dX6_rows_49 : decode cX6_rows 49 = .ok (.istore_n 3, 1) := by decide +kernel
theorem dX6_rows_50 : decode cX6_rows 50 = .ok (.iload_n 3, 1) := by decide +kernel
theorem dX6_rows_51 : decode cX6_rows 51 = .ok (.bipush 48, 2) := by decide +kernel
theorem dX6_rows_53 : decode cX6_rows 53 = .ok (.if_icmp .le 19, 3) := by decide +kernel
theorem dX6_rows_56 : decode cX6_rows 56 = .ok (.aload_n 0, 1) := by decide +kernel
theorem dX6_rows_57 : decode cX6_rows 57 = .ok (.dup, 1) := by decide +kernel
theorem dX6_rows_58 : decode cX6_rows 58 = .ok (.getfield 102, 3) := by decide +kernel
theorem dX6_rows_61 : decode cX6_rows 61 = .ok (.iconst 1, 1) := by decide +kernel
theorem dX6_rows_62 : decode cX6_rows 62 = .ok (.iadd, 1) := by decide +kernel
theorem dX6_rows_63 : decode cX6_rows 63 = .ok (.putfield 102, 3) := by decide +kernel
theorem dX6_rows_66 : decode cX6_rows 66 = .ok (.aload_n 0, 1) := by decide +kernel
theorem dX6_rows_67 : decode cX6_rows 67 = .ok (.iconst 4, 1) := by decide +kernel
theorem dX6_rows_68 : decode cX6_rows 68 = .ok (.invokevirtual 138, 3) := by decide +kernel
theorem dX6_rows_71 : decode cX6_rows 71 = .ok (.ireturn, 1) := by decide +kernel
theorem dX6_rows_72 : decode cX6_rows 72 = .ok (.aload_n 0, 1) := by decide +kernel
theorem dX6_rows_73 : decode cX6_rows 73 = .ok (.iconst 4, 1) := by decide +kernel
theorem dX6_rows_74 : decode cX6_rows 74 = .ok (.invokevirtual 180, 3) := by decide +kernel
theorem dX6_rows_77 : decode cX6_rows 77 = .ok (.ifCond .ne 8, 3) := by decide +kernel
theorem dX6_rows_80 : decode cX6_rows 80 = .ok (.aload_n 0, 1) := by decide +kernel
theorem dX6_rows_81 : decode cX6_rows 81 = .ok (.invokevirtual 132, 3) := by decide +kernel
theorem dX6_rows_84 : decode cX6_rows 84 = .ok (.ireturn, 1) := by decide +kernel
theorem dX6_rows_85 : decode cX6_rows 85 = .ok (.iload_n 2, 1) := by decide +kernel
theorem dX6_rows_86 : decode cX6_rows 86 = .ok (.ifCond .eq 31, 3) := by decide +kernel
theorem dX6_rows_89 : decode cX6_rows 89 = .ok (.aload_n 0, 1) := by decide +kernel
theorem dX6_rows_90 : decode cX6_rows 90 = .ok (.aload_n 0, 1) := by decide +kernel
theorem dX6_rows_91 : decode cX6_rows 91 = .ok (.getfield 102, 3) := by decide +kernel
theorem dX6_rows_94 : decode cX6_rows 94 = .ok (.iconst 2, 1) := by decide +kernel
theorem dX6_rows_95 : decode cX6_rows 95 = .ok (.iadd, 1) := by decide +kernel
theorem dX6_rows_96 : decode cX6_rows 96 = .ok (.invokevirtual 63, 3) := by decide +kernel
theorem dX6_rows_99 : decode cX6_rows 99 = .ok (.sipush 256, 3) := by decide +kernel
theorem dX6_rows_102 : decode cX6_rows 102 = .ok (.aload_n 0, 1) := by decide +kernel
theorem dX6_rows_103 : decode cX6_rows 103 = .ok (.aload_n 0, 1) := by decide +kernel
theorem dX6_rows_104 : decode cX6_rows 104 = .ok (.getfield 102, 3) := by decide +kernel
theorem dX6_rows_107 : decode cX6_rows 107 = .ok (.iconst 3, 1) := by decide +kernel
theorem dX6_rows_108 : decode cX6_rows 108 = .ok (.iadd, 1) := by decide +kernel
theorem dX6_rows_109 : decode cX6_rows 109 = .ok (.invokevirtual 63, 3) := by decide +kernel
theorem dX6_rows_112 : decode cX6_rows 112 = .ok (.imul, 1) := by decide +kernel
theorem dX6_rows_113 : decode cX6_rows 113 = .ok (.iadd, 1) := by decide +kernel
theorem dX6_rows_114 : decode cX6_rows 114 = .ok (.goto 28, 3) := by decide +kernel
theorem dX6_rows_117 : decode cX6_rows 117 = .ok (.sipush 256, 3) := by decide +kernel
theorem dX6_rows_120 : decode cX6_rows 120 = .ok (.aload_n 0, 1) := by decide +kernel
theorem dX6_rows_121 : decode cX6_rows 121 = .ok (.aload_n 0, 1) := by decide +kernel
theorem dX6_rows_122 : decode cX6_rows 122 = .ok (.getfield 102, 3) := by decide +kernel
theorem dX6_rows_125 : decode cX6_rows 125 = .ok (.iconst 2, 1) := by decide +kernel
theorem dX6_rows_126 : decode cX6_rows 126 = .ok (.iadd, 1) := by decide +kernel
theorem dX6_rows_127 : decode cX6_rows 127 = .ok (.invokevirtual 63, 3) := by decide +kernel
theorem dX6_rows_130 : decode cX6_rows 130 = .ok (.imul, 1) := by decide +kernel
theorem dX6_rows_131 : decode cX6_rows 131 = .ok (.aload_n 0, 1) := by decide +kernel
theorem dX6_rows_132 : decode cX6_rows 132 = .ok (.aload_n 0, 1) := by decide +kernel
theorem dX6_rows_133 : decode cX6_rows 133 = .ok (.getfield 102, 3) := by decide +kernel
theorem dX6_rows_136 : decode cX6_rows 136 = .ok (.iconst 3, 1) := by decide +kernel
theorem dX6_rows_137 : decode cX6_rows 137 = .ok (.iadd, 1) := by decide +kernel
theorem dX6_rows_138 : decode cX6_rows 138 = .ok (.invokevirtual 63, 3) := by decide +kernel
theorem dX6_rows_141 : decode cX6_rows 141 = .ok (.iadd, 1) := by decide +kernel
theorem dX6_rows_142 : decode cX6_rows 142 = .ok (.istore 4, 2) := by decide +kernel
theorem dX6_rows_144 : decode cX6_rows 144 = .ok (.iload_n 3, 1) := by decide +kernel
theorem dX6_rows_145 : decode cX6_rows 145 = .ok (.bipush 32, 2) := by decide +kernel
theorem dX6_rows_147 : decode cX6_rows 147 = .ok (.if_icmp .lt 9, 3) := by decide +kernel
theorem dX6_rows_150 : decode cX6_rows 150 = .ok (.iload_n 3, 1) := by decide +kernel
theorem dX6_rows_151 : decode cX6_rows 151 = .ok (.bipush 48, 2) := by decide +kernel
theorem dX6_rows_153 : decode cX6_rows 153 = .ok (.if_icmp .ne 7, 3) := by decide +kernel
theorem dX6_rows_156 : decode cX6_rows 156 = .ok (.iconst 4, 1) := by decide +kernel
theorem dX6_rows_157 : decode cX6_rows 157 = .ok (.goto 4, 3) := by decide +kernel
theorem dX6_rows_160 : decode cX6_rows 160 = .ok (.iconst 2, 1) := by decide +kernel
theorem dX6_rows_161 : decode cX6_rows 161 = .ok (.istore 5, 2) := by decide +kernel
theorem dX6_rows_163 : decode cX6_rows 163 = .ok (.aload_n 0, 1) := by decide +kernel
theorem dX6_rows_164 : decode cX6_rows 164 = .ok (.iconst 4, 1) := by decide +kernel
theorem dX6_rows_165 : decode cX6_rows 165 = .ok (.iload 5, 2) := by decide +kernel
theorem dX6_rows_167 : decode cX6_rows 167 = .ok (.iload 4, 2) := by decide +kernel
theorem dX6_rows_169 : decode cX6_rows 169 = .ok (.imul, 1) := by decide +kernel
theorem dX6_rows_170 : decode cX6_rows 170 = .ok (.iadd, 1) := by decide +kernel
theorem dX6_rows_171 : decode cX6_rows 171 = .ok (.invokevirtual 180, 3) := by decide +kernel
theorem dX6_rows_174 : decode cX6_rows 174 = .ok (.ifCond .ne 8, 3) := by decide +kernel
theorem dX6_rows_177 : decode cX6_rows 177 = .ok (.aload_n 0, 1) := by decide +kernel
theorem dX6_rows_178 : decode cX6_rows 178 = .ok (.invokevirtual 132, 3) := by decide +kernel
theorem dX6_rows_181 : decode cX6_rows 181 = .ok (.ireturn, 1) := by decide +kernel
theorem dX6_rows_182 : decode cX6_rows 182 = .ok (.aload_n 0, 1) := by decide +kernel
theorem dX6_rows_183 : decode cX6_rows 183 = .ok (.iload_n 3, 1) := by decide +kernel
theorem dX6_rows_184 : decode cX6_rows 184 = .ok (.ifCond .eq 13, 3) := by decide +kernel
theorem dX6_rows_187 : decode cX6_rows 187 = .ok (.iload_n 3, 1) := by decide +kernel
theorem dX6_rows_188 : decode cX6_rows 188 = .ok (.bipush 32, 2) := by decide +kernel
theorem dX6_rows_190 : decode cX6_rows 190 = .ok (.if_icmp .eq 7, 3) := by decide +kernel
theorem dX6_rows_193 : decode cX6_rows 193 = .ok (.iconst 1, 1) := by decide +kernel
theorem dX6_rows_194 : decode cX6_rows 194 = .ok (.goto 4, 3) := by decide +kernel
theorem dX6_rows_197 : decode cX6_rows 197 = .ok (.iconst 0, 1) := by decide +kernel
theorem dX6_rows_198 : decode cX6_rows 198 = .ok (.putfield 183, 3) := by decide +kernel
theorem dX6_rows_201 : decode cX6_rows 201 = .ok (.iconst 0, 1) := by decide +kernel
theorem dX6_rows_202 : decode cX6_rows 202 = .ok (.istore 6, 2) := by decide +kernel
theorem dX6_rows_204 : decode cX6_rows 204 = .ok (.iload 6, 2) := by decide +kernel
theorem dX6_rows_206 : decode cX6_rows 206 = .ok (.iload 4, 2) := by decide +kernel
theorem dX6_rows_208 : decode cX6_rows 208 = .ok (.if_icmp .ge 115, 3) := by decide +kernel
theorem dX6_rows_211 : decode cX6_rows 211 = .ok (.iload 6, 2) := by decide +kernel
theorem dX6_rows_213 : decode cX6_rows 213 = .ok (.bipush 60, 2) := by decide +kernel
theorem dX6_rows_215 : decode cX6_rows 215 = .ok (.if_icmp .ge 108, 3) := by decide +kernel
theorem dX6_rows_218 : decode cX6_rows 218 = .ok (.aload_n 0, 1) := by decide +kernel
theorem dX6_rows_219 : decode cX6_rows 219 = .ok (.getfield 102, 3) := by decide +kernel
theorem dX6_rows_222 : decode cX6_rows 222 = .ok (.iconst 4, 1) := by decide +kernel
theorem dX6_rows_223 : decode cX6_rows 223 = .ok (.iadd, 1) := by decide +kernel
theorem dX6_rows_224 : decode cX6_rows 224 = .ok (.iload 5, 2) := by decide +kernel
theorem dX6_rows_226 : decode cX6_rows 226 = .ok (.iload 6, 2) := by decide +kernel
theorem dX6_rows_228 : decode cX6_rows 228 = .ok (.imul, 1) := by decide +kernel
theorem dX6_rows_229 : decode cX6_rows 229 = .ok (.iadd, 1) := by decide +kernel
theorem dX6_rows_230 : decode cX6_rows 230 = .ok (.istore 7, 2) := by decide +kernel
theorem dX6_rows_232 : decode cX6_rows 232 = .ok (.iload_n 3, 1) := by decide +kernel
theorem dX6_rows_233 : decode cX6_rows 233 = .ok (.bipush 48, 2) := by decide +kernel
theorem dX6_rows_235 : decode cX6_rows 235 = .ok (.if_icmp .ne 20, 3) := by decide +kernel
theorem dX6_rows_238 : decode cX6_rows 238 = .ok (.aload_n 0, 1) := by decide +kernel
theorem dX6_rows_239 : decode cX6_rows 239 = .ok (.getfield 37, 3) := by decide +kernel
theorem dX6_rows_242 : decode cX6_rows 242 = .ok (.iload 6, 2) := by decide +kernel
theorem dX6_rows_244 : decode cX6_rows 244 = .ok (.aload_n 0, 1) := by decide +kernel
theorem dX6_rows_245 : decode cX6_rows 245 = .ok (.iload 7, 2) := by decide +kernel
theorem dX6_rows_247 : decode cX6_rows 247 = .ok (.iload_n 2, 1) := by decide +kernel
theorem dX6_rows_248 : decode cX6_rows 248 = .ok (.invokevirtual 186, 3) := by decide +kernel
theorem dX6_rows_251 : decode cX6_rows 251 = .ok (.dastore, 1) := by decide +kernel
theorem dX6_rows_252 : decode cX6_rows 252 = .ok (.goto 65, 3) := by decide +kernel
theorem dX6_rows_255 : decode cX6_rows 255 = .ok (.aload_n 0, 1) := by decide +kernel
theorem dX6_rows_256 : decode cX6_rows 256 = .ok (.getfield 183, 3) := by decide +kernel
theorem dX6_rows_259 : decode cX6_rows 259 = .ok (.ifCond .eq 41, 3) := by decide +kernel
theorem dX6_rows_262 : decode cX6_rows 262 = .ok (.aload_n 0, 1) := by decide +kernel
theorem dX6_rows_263 : decode cX6_rows 263 = .ok (.getfield 37, 3) := by decide +kernel
theorem dX6_rows_266 : decode cX6_rows 266 = .ok (.iload 6, 2) := by decide +kernel
theorem dX6_rows_268 : decode cX6_rows 268 = .ok (.aload_n 0, 1) := by decide +kernel
theorem dX6_rows_269 : decode cX6_rows 269 = .ok (.iload 7, 2) := by decide +kernel
theorem dX6_rows_271 : decode cX6_rows 271 = .ok (.iload 5, 2) := by decide +kernel
theorem dX6_rows_273 : decode cX6_rows 273 = .ok (.iload_n 2, 1) := by decide +kernel
theorem dX6_rows_274 : decode cX6_rows 274 = .ok (.invokevirtual 165, 3) := by decide +kernel
theorem dX6_rows_277 : decode cX6_rows 277 = .ok (.l2d, 1) := by decide +kernel
theorem dX6_rows_278 : decode cX6_rows 278 = .ok (.iload_n 3, 1) := by decide +kernel
theorem dX6_rows_279 : decode cX6_rows 279 = .ok (.bipush 32, 2) := by decide +kernel
theorem dX6_rows_281 : decode cX6_rows 281 = .ok (.if_icmp .ge 7, 3) := by decide +kernel
theorem dX6_rows_284 : decode cX6_rows 284 = .ok (.iload_n 3, 1) := by decide +kernel
theorem dX6_rows_285 : decode cX6_rows 285 = .ok (.goto 7, 3) := by decide +kernel
theorem dX6_rows_288 : decode cX6_rows 288 = .ok (.iload_n 3, 1) := by decide +kernel
theorem dX6_rows_289 : decode cX6_rows 289 = .ok (.bipush 32, 2) := by decide +kernel
theorem dX6_rows_291 : decode cX6_rows 291 = .ok (.isub, 1) := by decide +kernel
theorem dX6_rows_292 : decode cX6_rows 292 = .ok (.invokestatic 174, 3) := by decide +kernel
theorem dX6_rows_295 : decode cX6_rows 295 = .ok (.ddiv, 1) := by decide +kernel
theorem dX6_rows_296 : decode cX6_rows 296 = .ok (.dastore, 1) := by decide +kernel
theorem dX6_rows_297 : decode cX6_rows 297 = .ok (.goto 20, 3) := by decide +kernel
theorem dX6_rows_300 : decode cX6_rows 300 = .ok (.aload_n 0, 1) := by decide +kernel
theorem dX6_rows_301 : decode cX6_rows 301 = .ok (.getfield 34, 3) := by decide +kernel
theorem dX6_rows_304 : decode cX6_rows 304 = .ok (.iload 6, 2) := by decide +kernel
theorem dX6_rows_306 : decode cX6_rows 306 = .ok (.aload_n 0, 1) := by decide +kernel
theorem dX6_rows_307 : decode cX6_rows 307 = .ok (.iload 7, 2) := by decide +kernel
theorem dX6_rows_309 : decode cX6_rows 309 = .ok (.iload 5, 2) := by decide +kernel
theorem dX6_rows_311 : decode cX6_rows 311 = .ok (.iload_n 2, 1) := by decide +kernel
theorem dX6_rows_312 : decode cX6_rows 312 = .ok (.invokevirtual 165, 3) := by decide +kernel
theorem dX6_rows_315 : decode cX6_rows 315 = .ok (.l2i, 1) := by decide +kernel
theorem dX6_rows_316 : decode cX6_rows 316 = .ok (.iastore, 1) := by decide +kernel
theorem dX6_rows_317 : decode cX6_rows 317 = .ok (.iinc 6 1, 3) := by decide +kernel
theorem dX6_rows_320 : decode cX6_rows 320 = .ok (.goto (-116), 3) := by decide +kernel
theorem dX6_rows_323 : decode cX6_rows 323 = .ok (.aload_n 0, 1) := by decide +kernel
theorem dX6_rows_324 : decode cX6_rows 324 = .ok (.iload 4, 2) := by decide +kernel
theorem dX6_rows_326 : decode cX6_rows 326 = .ok (.putfield 190, 3) := by decide +kernel
theorem dX6_rows_329 : decode cX6_rows 329 = .ok (.aload_n 0, 1) := by decide +kernel
theorem dX6_rows_330 : decode cX6_rows 330 = .ok (.iload 4, 2) := by decide +kernel
theorem dX6_rows_332 : decode cX6_rows 332 = .ok (.i2l, 1) := by decide +kernel
theorem dX6_rows_333 : decode cX6_rows 333 = .ok (.putfield 77, 3) := by decide +kernel
theorem dX6_rows_336 : decode cX6_rows 336 = .ok (.aload_n 0, 1) := by decide +kernel
theorem dX6_rows_337 : decode cX6_rows 337 = .ok (.aload_n 0, 1) := by decide +kernel
theorem dX6_rows_338 : decode cX6_rows 338 = .ok (.getfield 102, 3) := by decide +kernel
theorem dX6_rows_341 : decode cX6_rows 341 = .ok (.iconst 4, 1) := by decide +kernel
theorem dX6_rows_342 : decode cX6_rows 342 = .ok (.iadd, 1) := by decide +kernel
theorem dX6_rows_343 : decode cX6_rows 343 = .ok (.iload 5, 2) := by decide +kernel
theorem dX6_rows_345 : decode cX6_rows 345 = .ok (.iload 4, 2) := by decide +kernel
theorem dX6_rows_347 : decode cX6_rows 347 = .ok (.imul, 1) := by decide +kernel
theorem dX6_rows_348 : decode cX6_rows 348 = .ok (.iadd, 1) := by decide +kernel
theorem dX6_rows_349 : decode cX6_rows 349 = .ok (.putfield 102, 3) := by decide +kernel
theorem dX6_rows_352 : decode cX6_rows 352 = .ok (.iload 4, 2) := by decide +kernel
theorem dX6_rows_354 : decode cX6_rows 354 = .ok (.bipush 60, 2) := by decide +kernel
theorem dX6_rows_356 : decode cX6_rows 356 = .ok (.if_icmp .le 8, 3) := by decide +kernel
theorem dX6_rows_359 : decode cX6_rows 359 = .ok (.bipush (-2), 2) := by decide +kernel
theorem dX6_rows_361 : decode cX6_rows 361 = .ok (.goto 17, 3) := by decide +kernel
theorem dX6_rows_364 : decode cX6_rows 364 = .ok (.aload_n 0, 1) := by decide +kernel
theorem dX6_rows_365 : decode cX6_rows 365 = .ok (.getfield 171, 3) := by decide +kernel
theorem dX6_rows_368 : decode cX6_rows 368 = .ok (.ifCond .eq 8, 3) := by decide +kernel
theorem dX6_rows_371 : decode cX6_rows 371 = .ok (.bipush (-6), 2) := by decide +kernel
theorem dX6_rows_373 : decode cX6_rows 373 = .ok (.goto 5, 3) := by decide +kernel
theorem dX6_rows_376 : decode cX6_rows 376 = .ok (.bipush 16, 2) := by decide +kernel
theorem dX6_rows_378 : decode cX6_rows 378 = .ok (.ireturn, 1) := by decide +kernel
theorem dX6_one_0 : decode cX6_one 0 = .ok (.aload_n 0, 1) := by decide +kernel
theorem dX6_one_1 : decode cX6_one 1 = .ok (.iconst 2, 1) := by decide +kernel
theorem dX6_one_2 : decode cX6_one 2 = .ok (.invokevirtual 180, 3) := by decide +kernel
theorem dX6_one_5 : decode cX6_one 5 = .ok (.ifCond .ne 8, 3) := by decide +kernel
theorem dX6_one_8 : decode cX6_one 8 = .ok (.aload_n 0, 1) := by decide +kernel
theorem dX6_one_9 : decode cX6_one 9 = .ok (.invokevirtual 132, 3) := by decide +kernel
theorem dX6_one_12 : decode cX6_one 12 = .ok (.ireturn, 1) := by decide +kernel
theorem dX6_one_13 : decode cX6_one 13 = .ok (.aload_n 0, 1) := by decide +kernel
theorem dX6_one_14 : decode cX6_one 14 = .ok (.aload_n 0, 1) := by decide +kernel
theorem dX6_one_15 : decode cX6_one 15 = .ok (.aload_n 0, 1) := by decide +kernel
theorem dX6_one_16 : decode cX6_one 16 = .ok (.getfield 102, 3) := by decide +kernel
theorem dX6_one_19 : decode cX6_one 19 = .ok (.iconst 1, 1) := by decide +kernel
theorem dX6_one_20 : decode cX6_one 20 = .ok (.iadd, 1) := by decide +kernel
theorem dX6_one_21 : decode cX6_one 21 = .ok (.invokevirtual 63, 3) := by decide +kernel
theorem dX6_one_24 : decode cX6_one 24 = .ok (.i2l, 1) := by decide +kernel
theorem dX6_one_25 : decode cX6_one 25 = .ok (.putfield 77, 3) := by decide +kernel
theorem dX6_one_28 : decode cX6_one 28 = .ok (.iload_n 2, 1) := by decide +kernel
theorem dX6_one_29 : decode cX6_one 29 = .ok (.ifCond .eq 28, 3) := by decide +kernel
theorem dX6_one_32 : decode cX6_one 32 = .ok (.aload_n 0, 1) := by decide +kernel
theorem dX6_one_33 : decode cX6_one 33 = .ok (.getfield 77, 3) := by decide +kernel
theorem dX6_one_36 : decode cX6_one 36 = .ok (.lconst 1, 1) := by decide +kernel
theorem dX6_one_37 : decode cX6_one 37 = .ok (.lcmp, 1) := by decide +kernel
theorem dX6_one_38 : decode cX6_one 38 = .ok (.ifCond .le 19, 3) := by decide +kernel
theorem dX6_one_41 : decode cX6_one 41 = .ok (.aload_n 0, 1) := by decide +kernel
theorem dX6_one_42 : decode cX6_one 42 = .ok (.dup, 1) := by decide +kernel
theorem dX6_one_43 : decode cX6_one 43 = .ok (.getfield 102, 3) := by decide +kernel
theorem dX6_one_46 : decode cX6_one 46 = .ok (.iconst 1, 1) := by decide +kernel
theorem dX6_one_47 : decode cX6_one 47 = .ok (.iadd, 1) := by decide +kernel
theorem dX6_one_48 : decode cX6_one 48 = .ok (.putfield 102, 3) := by decide +kernel
theorem dX6_one_51 : decode cX6_one 51 = .ok (.aload_n 0, 1) := by decide +kernel
theorem dX6_one_52 : decode cX6_one 52 = .ok (.iconst 4, 1) := by decide +kernel
theorem dX6_one_53 : decode cX6_one 53 = .ok (.invokevirtual 138, 3) := by decide +kernel
theorem dX6_one_56 : decode cX6_one 56 = .ok (.ireturn, 1) := by decide +kernel
theorem dX6_one_57 : decode cX6_one 57 = .ok (.aload_n 0, 1) := by decide +kernel
theorem dX6_one_58 : decode cX6_one 58 = .ok (.aload_n 0, 1) := by decide +kernel
theorem dX6_one_59 : decode cX6_one 59 = .ok (.getfield 102, 3) := by decide +kernel
theorem dX6_one_62 : decode cX6_one 62 = .ok (.iconst 2, 1) := by decide +kernel
theorem dX6_one_63 : decode cX6_one 63 = .ok (.iadd, 1) := by decide +kernel
theorem dX6_one_64 : decode cX6_one 64 = .ok (.putfield 102, 3) := by decide +kernel
theorem dX6_one_67 : decode cX6_one 67 = .ok (.iload_n 1, 1) := by decide +kernel
theorem dX6_one_68 : decode cX6_one 68 = .ok (.ireturn, 1) := by decide +kernel
theorem dX6_binaryToken_0 : decode cX6_binaryToken 0 = .ok (.iload_n 1, 1) := by decide +kernel
theorem dX6_binaryToken_1 : decode cX6_binaryToken 1 = .ok (.sipush 132, 3) := by decide +kernel
theorem dX6_binaryToken_4 : decode cX6_binaryToken 4 = .ok (.if_icmp .eq 10, 3) := by decide +kernel
theorem dX6_binaryToken_7 : decode cX6_binaryToken 7 = .ok (.iload_n 1, 1) := by decide +kernel
theorem dX6_binaryToken_8 : decode cX6_binaryToken 8 = .ok (.sipush 133, 3) := by decide +kernel
theorem dX6_binaryToken_11 : decode cX6_binaryToken 11 = .ok (.if_icmp .ne 24, 3) := by decide +kernel
theorem dX6_binaryToken_14 : decode cX6_binaryToken 14 = .ok (.aload_n 0, 1) := by decide +kernel
theorem dX6_binaryToken_15 : decode cX6_binaryToken 15 = .ok (.iconst 4, 1) := by decide +kernel
theorem dX6_binaryToken_16 : decode cX6_binaryToken 16 = .ok (.iload_n 1, 1) := by decide +kernel
theorem dX6_binaryToken_17 : decode cX6_binaryToken 17 = .ok (.sipush 133, 3) := by decide +kernel
theorem dX6_binaryToken_20 : decode cX6_binaryToken 20 = .ok (.if_icmp .ne 7, 3) := by decide +kernel
theorem dX6_binaryToken_23 : decode cX6_binaryToken 23 = .ok (.iconst 1, 1) := by decide +kernel
theorem dX6_binaryToken_24 : decode cX6_binaryToken 24 = .ok (.goto 4, 3) := by decide +kernel
theorem dX6_binaryToken_27 : decode cX6_binaryToken 27 = .ok (.iconst 0, 1) := by decide +kernel
theorem dX6_binaryToken_28 : decode cX6_binaryToken 28 = .ok (.invokevirtual 193, 3) := by decide +kernel
theorem dX6_binaryToken_31 : decode cX6_binaryToken 31 = .ok (.invokestatic 197, 3) := by decide +kernel
theorem dX6_binaryToken_34 : decode cX6_binaryToken 34 = .ok (.ireturn, 1) := by decide +kernel
theorem dX6_binaryToken_35 : decode cX6_binaryToken 35 = .ok (.iload_n 1, 1) := by decide +kernel
theorem dX6_binaryToken_36 : decode cX6_binaryToken 36 = .ok (.sipush 134, 3) := by decide +kernel
theorem dX6_binaryToken_39 : decode cX6_binaryToken 39 = .ok (.if_icmp .eq 10, 3) := by decide +kernel
theorem dX6_binaryToken_42 : decode cX6_binaryToken 42 = .ok (.iload_n 1, 1) := by decide +kernel
theorem dX6_binaryToken_43 : decode cX6_binaryToken 43 = .ok (.sipush 135, 3) := by decide +kernel
theorem dX6_binaryToken_46 : decode cX6_binaryToken 46 = .ok (.if_icmp .ne 24, 3) := by decide +kernel
theorem dX6_binaryToken_49 : decode cX6_binaryToken 49 = .ok (.aload_n 0, 1) := by decide +kernel
theorem dX6_binaryToken_50 : decode cX6_binaryToken 50 = .ok (.iconst 2, 1) := by decide +kernel
theorem dX6_binaryToken_51 : decode cX6_binaryToken 51 = .ok (.iload_n 1, 1) := by decide +kernel
theorem dX6_binaryToken_52 : decode cX6_binaryToken 52 = .ok (.sipush 135, 3) := by decide +kernel
theorem dX6_binaryToken_55 : decode cX6_binaryToken 55 = .ok (.if_icmp .ne 7, 3) := by decide +kernel
theorem dX6_binaryToken_58 : decode cX6_binaryToken 58 = .ok (.iconst 1, 1) := by decide +kernel
theorem dX6_binaryToken_59 : decode cX6_binaryToken 59 = .ok (.goto 4, 3) := by decide +kernel
theorem dX6_binaryToken_62 : decode cX6_binaryToken 62 = .ok (.iconst 0, 1) := by decide +kernel
theorem dX6_binaryToken_63 : decode cX6_binaryToken 63 = .ok (.invokevirtual 193, 3) := by decide +kernel
theorem dX6_binaryToken_66 : decode cX6_binaryToken 66 = .ok (.invokestatic 197, 3) := by decide +kernel
theorem dX6_binaryToken_69 : decode cX6_binaryToken 69 = .ok (.ireturn, 1) := by decide +kernel
theorem dX6_binaryToken_70 : decode cX6_binaryToken 70 = .ok (.iload_n 1, 1) := by decide +kernel
theorem dX6_binaryToken_71 : decode cX6_binaryToken 71 = .ok (.sipush 136, 3) := by decide +kernel
theorem dX6_binaryToken_74 : decode cX6_binaryToken 74 = .ok (.if_icmp .ne 13, 3) := by decide +kernel
theorem dX6_binaryToken_77 : decode cX6_binaryToken 77 = .ok (.aload_n 0, 1) := by decide +kernel
theorem dX6_binaryToken_78 : decode cX6_binaryToken 78 = .ok (.iconst 1, 1) := by decide +kernel
theorem dX6_binaryToken_79 : decode cX6_binaryToken 79 = .ok (.iconst 0, 1) := by decide +kernel
theorem dX6_binaryToken_80 : decode cX6_binaryToken 80 = .ok (.invokevirtual 193, 3) := by decide +kernel
theorem dX6_binaryToken_83 : decode cX6_binaryToken 83 = .ok (.invokestatic 197, 3) := by decide +kernel
theorem dX6_binaryToken_86 : decode cX6_binaryToken 86 = .ok (.ireturn, 1) := by decide +kernel
theorem dX6_binaryToken_87 : decode cX6_binaryToken 87 = .ok (.iload_n 1, 1) := by decide +kernel
theorem dX6_binaryToken_88 : decode cX6_binaryToken 88 = .ok (.sipush 137, 3) := by decide +kernel
theorem dX6_binaryToken_91 : decode cX6_binaryToken 91 = .ok (.if_icmp .ne 8, 3) := by decide +kernel
theorem dX6_binaryToken_94 : decode cX6_binaryToken 94 = .ok (.aload_n 0, 1) := by decide +kernel
theorem dX6_binaryToken_95 : decode cX6_binaryToken 95 = .ok (.invokevirtual 200, 3) := by decide +kernel
theorem dX6_binaryToken_98 : decode cX6_binaryToken 98 = .ok (.ireturn, 1) := by decide +kernel
theorem dX6_binaryToken_99 : decode cX6_binaryToken 99 = .ok (.iload_n 1, 1) := by decide +kernel
theorem dX6_binaryToken_100 : decode cX6_binaryToken 100 = .ok (.sipush 138, 3) := by decide +kernel
theorem dX6_binaryToken_103 : decode cX6_binaryToken 103 = .ok (.if_icmp .eq 10, 3) := by decide +kernel
theorem dX6_binaryToken_106 : decode cX6_binaryToken 106 = .ok (.iload_n 1, 1) := by decide +kernel
theorem dX6_binaryToken_107 : decode cX6_binaryToken 107 = .ok (.sipush 139, 3) := by decide +kernel
theorem dX6_binaryToken_110 : decode cX6_binaryToken 110 = .ok (.if_icmp .ne 66, 3) := by decide +kernel
theorem dX6_binaryToken_113 : decode cX6_binaryToken 113 = .ok (.aload_n 0, 1) := by decide +kernel
theorem dX6_binaryToken_114 : decode cX6_binaryToken 114 = .ok (.iconst 5, 1) := by decide +kernel
theorem dX6_binaryToken_115 : decode cX6_binaryToken 115 = .ok (.invokevirtual 180, 3) := by decide +kernel
theorem dX6_binaryToken_118 : decode cX6_binaryToken 118 = .ok (.ifCond .ne 8, 3) := by decide +kernel
theorem dX6_binaryToken_121 : decode cX6_binaryToken 121 = .ok (.aload_n 0, 1) := by decide +kernel
theorem dX6_binaryToken_122 : decode cX6_binaryToken 122 = .ok (.invokevirtual 132, 3) := by decide +kernel
theorem dX6_binaryToken_125 : decode cX6_binaryToken 125 = .ok (.ireturn, 1) := by decide +kernel
theorem dX6_binaryToken_126 : decode cX6_binaryToken 126 = .ok (.aload_n 0, 1) := by decide +kernel
theorem dX6_binaryToken_127 : decode cX6_binaryToken 127 = .ok (.aload_n 0, 1) := by decide +kernel
theorem dX6_binaryToken_128 : decode cX6_binaryToken 128 = .ok (.aload_n 0, 1) := by decide +kernel
theorem dX6_binaryToken_129 : decode cX6_binaryToken 129 = .ok (.getfield 102, 3) := by decide +kernel
theorem dX6_binaryToken_132 : decode cX6_binaryToken 132 = .ok (.iconst 1, 1) := by decide +kernel
theorem dX6_binaryToken_133 : decode cX6_binaryToken 133 = .ok (.iadd, 1) := by decide +kernel
theorem dX6_binaryToken_134 : decode cX6_binaryToken 134 = .ok (.iload_n 1, 1) := by decide +kernel
theorem dX6_binaryToken_135 : decode cX6_binaryToken 135 = .ok (.sipush 139, 3) := by decide +kernel
theorem dX6_binaryToken_138 : decode cX6_binaryToken 138 = .ok (.if_icmp .ne 7, 3) := by decide +kernel
theorem dX6_binaryToken_141 : decode cX6_binaryToken 141 = .ok (.iconst 1, 1) := by decide +kernel
theorem dX6_binaryToken_142 : decode cX6_binaryToken 142 = .ok (.goto 4, 3) := by decide +kernel
theorem dX6_binaryToken_145 : decode cX6_binaryToken 145 = .ok (.iconst 0, 1) := by decide +kernel
theorem dX6_binaryToken_146 : decode cX6_binaryToken 146 = .ok (.invokevirtual 186, 3) := by decide +kernel
theorem dX6_binaryToken_149 : decode cX6_binaryToken 149 = .ok (.putfield 93, 3) := by decide +kernel
theorem dX6_binaryToken_152 : decode cX6_binaryToken 152 = .ok (.aload_n 0, 1) := by decide +kernel
theorem dX6_binaryToken_153 : decode cX6_binaryToken 153 = .ok (.aload_n 0, 1) := by decide +kernel
theorem dX6_binaryToken_154 : decode cX6_binaryToken 154 = .ok (.getfield 102, 3) := by decide +kernel
theorem dX6_binaryToken_157 : decode cX6_binaryToken 157 = .ok (.iconst 5, 1) := by decide +kernel
theorem dX6_binaryToken_158 : decode cX6_binaryToken 158 = .ok (.iadd, 1) := by decide +kernel
theorem dX6_binaryToken_159 : decode cX6_binaryToken 159 = .ok (.putfield 102, 3) := by decide +kernel
theorem dX6_binaryToken_162 : decode cX6_binaryToken 162 = .ok (.aload_n 0, 1) := by decide +kernel
theorem dX6_binaryToken_163 : decode cX6_binaryToken 163 = .ok (.getfield 171, 3) := by decide +kernel
theorem dX6_binaryToken_166 : decode cX6_binaryToken 166 = .ok (.ifCond .eq 8, 3) := by decide +kernel
theorem dX6_binaryToken_169 : decode cX6_binaryToken 169 = .ok (.bipush (-6), 2) := by decide +kernel
theorem dX6_binaryToken_171 : decode cX6_binaryToken 171 = .ok (.goto 4, 3) := by decide +kernel
theorem dX6_binaryToken_174 : decode cX6_binaryToken 174 = .ok (.iconst 2, 1) := by decide +kernel
theorem dX6_binaryToken_175 : decode cX6_binaryToken 175 = .ok (.ireturn, 1) := by decide +kernel
theorem dX6_binaryToken_176 : decode cX6_binaryToken 176 = .ok (.iload_n 1, 1) := by decide +kernel
theorem dX6_binaryToken_177 : decode cX6_binaryToken 177 = .ok (.sipush 141, 3) := by decide +kernel
theorem dX6_binaryToken_180 : decode cX6_binaryToken 180 = .ok (.if_icmp .ne 11, 3) := by decide +kernel
theorem dX6_binaryToken_183 : decode cX6_binaryToken 183 = .ok (.aload_n 0, 1) := by decide +kernel
theorem dX6_binaryToken_184 : decode cX6_binaryToken 184 = .ok (.bipush 13, 2) := by decide +kernel
theorem dX6_binaryToken_186 : decode cX6_binaryToken 186 = .ok (.iconst 1, 1) := by decide +kernel
theorem dX6_binaryToken_187 : decode cX6_binaryToken 187 = .ok (.invokevirtual 203, 3) := by decide +kernel
theorem dX6_binaryToken_190 : decode cX6_binaryToken 190 = .ok (.ireturn, 1) := by decide +kernel
theorem dX6_binaryToken_191 : decode cX6_binaryToken 191 = .ok (.iload_n 1, 1) := by decide +kernel
theorem dX6_binaryToken_192 : decode cX6_binaryToken 192 = .ok (.sipush 142, 3) := by decide +kernel
theorem dX6_binaryToken_195 : decode cX6_binaryToken 195 = .ok (.if_icmp .ne 10, 3) := by decide +kernel
theorem dX6_binaryToken_198 : decode cX6_binaryToken 198 = .ok (.aload_n 0, 1) := by decide +kernel
theorem dX6_binaryToken_199 : decode cX6_binaryToken 199 = .ok (.iconst 1, 1) := by decide +kernel
theorem dX6_binaryToken_200 : decode cX6_binaryToken 200 = .ok (.iconst 0, 1) := by decide +kernel
theorem dX6_binaryToken_201 : decode cX6_binaryToken 201 = .ok (.invokevirtual 206, 3) := by decide +kernel
theorem dX6_binaryToken_204 : decode cX6_binaryToken 204 = .ok (.ireturn, 1) := by decide +kernel
theorem dX6_binaryToken_205 : decode cX6_binaryToken 205 = .ok (.iload_n 1, 1) := by decide +kernel
theorem dX6_binaryToken_206 : decode cX6_binaryToken 206 = .ok (.sipush 143, 3) := by decide +kernel
theorem dX6_binaryToken_209 : decode cX6_binaryToken 209 = .ok (.if_icmp .eq 10, 3) := by decide +kernel
theorem dX6_binaryToken_212 : decode cX6_binaryToken 212 = .ok (.iload_n 1, 1) := by decide +kernel
theorem dX6_binaryToken_213 : decode cX6_binaryToken 213 = .ok (.sipush 144, 3) := by decide +kernel
theorem dX6_binaryToken_216 : decode cX6_binaryToken 216 = .ok (.if_icmp .ne 21, 3) := by decide +kernel
theorem dX6_binaryToken_219 : decode cX6_binaryToken 219 = .ok (.aload_n 0, 1) := by decide +kernel
theorem dX6_binaryToken_220 : decode cX6_binaryToken 220 = .ok (.iconst 2, 1) := by decide +kernel
theorem dX6_binaryToken_221 : decode cX6_binaryToken 221 = .ok (.iload_n 1, 1) := by decide +kernel
theorem dX6_binaryToken_222 : decode cX6_binaryToken 222 = .ok (.sipush 144, 3) := by decide +kernel
theorem dX6_binaryToken_225 : decode cX6_binaryToken 225 = .ok (.if_icmp .ne 7, 3) := by decide +kernel
theorem dX6_binaryToken_228 : decode cX6_binaryToken 228 = .ok (.iconst 1, 1) := by decide +kernel
theorem dX6_binaryToken_229 : decode cX6_binaryToken 229 = .ok (.goto 4, 3) := by decide +kernel
theorem dX6_binaryToken_232 : decode cX6_binaryToken 232 = .ok (.iconst 0, 1) := by decide +kernel
theorem dX6_binaryToken_233 : decode cX6_binaryToken 233 = .ok (.invokevirtual 206, 3) := by decide +kernel
theorem dX6_binaryToken_236 : decode cX6_binaryToken 236 = .ok (.ireturn, 1) := by decide +kernel
theorem dX6_binaryToken_237 : decode cX6_binaryToken 237 = .ok (.iload_n 1, 1) := by decide +kernel
theorem dX6_binaryToken_238 : decode cX6_binaryToken 238 = .ok (.sipush 145, 3) := by decide +kernel
theorem dX6_binaryToken_241 : decode cX6_binaryToken 241 = .ok (.if_icmp .eq 10, 3) := by decide +kernel
theorem dX6_binaryToken_244 : decode cX6_binaryToken 244 = .ok (.iload_n 1, 1) := by decide +kernel
theorem dX6_binaryToken_245 : decode cX6_binaryToken 245 = .ok (.sipush 146, 3) := by decide +kernel
theorem dX6_binaryToken_248 : decode cX6_binaryToken 248 = .ok (.if_icmp .ne 14, 3) := by decide +kernel
theorem dX6_binaryToken_251 : decode cX6_binaryToken 251 = .ok (.aload_n 0, 1) := by decide +kernel
theorem dX6_binaryToken_252 : decode cX6_binaryToken 252 = .ok (.iload_n 1, 1) := by decide +kernel
theorem dX6_binaryToken_253 : decode cX6_binaryToken 253 = .ok (.sipush 131, 3) := by decide +kernel
theorem dX6_binaryToken_256 : decode cX6_binaryToken 256 = .ok (.isub, 1) := by decide +kernel
theorem dX6_binaryToken_257 : decode cX6_binaryToken 257 = .ok (.iconst 0, 1) := by decide +kernel
theorem dX6_binaryToken_258 : decode cX6_binaryToken 258 = .ok (.invokevirtual 203, 3) := by decide +kernel
theorem dX6_binaryToken_261 : decode cX6_binaryToken 261 = .ok (.ireturn, 1) := by decide +kernel
theorem dX6_binaryToken_262 : decode cX6_binaryToken 262 = .ok (.iload_n 1, 1) := by decide +kernel
theorem dX6_binaryToken_263 : decode cX6_binaryToken 263 = .ok (.sipush 149, 3) := by decide +kernel
theorem dX6_binaryToken_266 : decode cX6_binaryToken 266 = .ok (.if_icmp .ne 10, 3) := by decide +kernel
theorem dX6_binaryToken_269 : decode cX6_binaryToken 269 = .ok (.aload_n 0, 1) := by decide +kernel
theorem dX6_binaryToken_270 : decode cX6_binaryToken 270 = .ok (.invokevirtual 209, 3) := by decide +kernel
theorem dX6_binaryToken_273 : decode cX6_binaryToken 273 = .ok (.goto 8, 3) := by decide +kernel
theorem dX6_binaryToken_276 : decode cX6_binaryToken 276 = .ok (.aload_n 0, 1) := by decide +kernel
theorem dX6_binaryToken_277 : decode cX6_binaryToken 277 = .ok (.iconst 4, 1) := by decide +kernel
theorem dX6_binaryToken_278 : decode cX6_binaryToken 278 = .ok (.invokevirtual 138, 3) := by decide +kernel
theorem dX6_binaryToken_281 : decode cX6_binaryToken 281 = .ok (.ireturn, 1) := by decide +kernel
theorem dX6_asNumber_0 : decode cX6_asNumber 0 = .ok (.iload_n 0, 1) := by decide +kernel
theorem dX6_asNumber_1 : decode cX6_asNumber 1 = .ok (.bipush (-99), 2) := by decide +kernel
theorem dX6_asNumber_3 : decode cX6_asNumber 3 = .ok (.if_icmp .ne 7, 3) := by decide +kernel
theorem dX6_asNumber_6 : decode cX6_asNumber 6 = .ok (.iconst 1, 1) := by decide +kernel
theorem dX6_asNumber_7 : decode cX6_asNumber 7 = .ok (.goto 4, 3) := by decide +kernel
theorem dX6_asNumber_10 : decode cX6_asNumber 10 = .ok (.iload_n 0, 1) := by decide +kernel
theorem dX6_asNumber_11 : decode cX6_asNumber 11 = .ok (.ireturn, 1) := by decide +kernel
theorem dX6_bracket_0 : decode cX6_bracket 0 = .ok (.aload_n 0, 1) := by decide +kernel
theorem dX6_bracket_1 : decode cX6_bracket 1 = .ok (.dup, 1) := by decide +kernel
theorem dX6_bracket_2 : decode cX6_bracket 2 = .ok (.getfield 102, 3) := by decide +kernel
theorem dX6_bracket_5 : decode cX6_bracket 5 = .ok (.iconst 1, 1) := by decide +kernel
theorem dX6_bracket_6 : decode cX6_bracket 6 = .ok (.iadd, 1) := by decide +kernel
theorem dX6_bracket_7 : decode cX6_bracket 7 = .ok (.putfield 102, 3) := by decide +kernel
theorem dX6_bracket_10 : decode cX6_bracket 10 = .ok (.iload_n 1, 1) := by decide +kernel
theorem dX6_bracket_11 : decode cX6_bracket 11 = .ok (.bipush 91, 2) := by decide +kernel
theorem dX6_bracket_13 : decode cX6_bracket 13 = .ok (.if_icmp .ne 6, 3) := by decide +kernel
theorem dX6_bracket_16 : decode cX6_bracket 16 = .ok (.bipush 7, 2) := by decide +kernel
theorem dX6_bracket_18 : decode cX6_bracket 18 = .ok (.ireturn, 1) := by decide +kernel
theorem dX6_bracket_19 : decode cX6_bracket 19 = .ok (.iload_n 1, 1) := by decide +kernel
theorem dX6_bracket_20 : decode cX6_bracket 20 = .ok (.bipush 93, 2) := by decide +kernel
theorem dX6_bracket_22 : decode cX6_bracket 22 = .ok (.if_icmp .ne 6, 3) := by decide +kernel
theorem dX6_bracket_25 : decode cX6_bracket 25 = .ok (.bipush 8, 2) := by decide +kernel
theorem dX6_bracket_27 : decode cX6_bracket 27 = .ok (.ireturn, 1) := by decide +kernel
theorem dX6_bracket_28 : decode cX6_bracket 28 = .ok (.iload_n 1, 1) := by decide +kernel
theorem dX6_bracket_29 : decode cX6_bracket 29 = .ok (.bipush 123, 2) := by decide +kernel
theorem dX6_bracket_31 : decode cX6_bracket 31 = .ok (.if_icmp .ne 20, 3) := by decide +kernel
theorem dX6_bracket_34 : decode cX6_bracket 34 = .ok (.aload_n 0, 1) := by decide +kernel
theorem dX6_bracket_35 : decode cX6_bracket 35 = .ok (.getfield 212, 3) := by decide +kernel
theorem dX6_bracket_38 : decode cX6_bracket 38 = .ok (.bipush 20, 2) := by decide +kernel
theorem dX6_bracket_40 : decode cX6_bracket 40 = .ok (.if_icmp .ne 8, 3) := by decide +kernel
theorem dX6_bracket_43 : decode cX6_bracket 43 = .ok (.bipush (-2), 2) := by decide +kernel
theorem dX6_bracket_45 : decode cX6_bracket 45 = .ok (.goto 5, 3) := by decide +kernel
theorem dX6_bracket_48 : decode cX6_bracket 48 = .ok (.bipush 9, 2) := by decide +kernel
theorem dX6_bracket_50 : decode cX6_bracket 50 = .ok (.ireturn, 1) := by decide +kernel
theorem dX6_bracket_51 : decode cX6_bracket 51 = .ok (.iload_n 1, 1) := by decide +kernel
theorem dX6_bracket_52 : decode cX6_bracket 52 = .ok (.bipush 125, 2) := by decide +kernel
theorem dX6_bracket_54 : decode cX6_bracket 54 = .ok (.if_icmp .ne 18, 3) := by decide +kernel
theorem dX6_bracket_57 : decode cX6_bracket 57 = .ok (.aload_n 0, 1) := by decide +kernel
theorem dX6_bracket_58 : decode cX6_bracket 58 = .ok (.getfield 212, 3) := by decide +kernel
theorem dX6_bracket_61 : decode cX6_bracket 61 = .ok (.ifCond .ne 8, 3) := by decide +kernel
theorem dX6_bracket_64 : decode cX6_bracket 64 = .ok (.bipush (-4), 2) := by decide +kernel
theorem dX6_bracket_66 : decode cX6_bracket 66 = .ok (.goto 5, 3) := by decide +kernel
theorem dX6_bracket_69 : decode cX6_bracket 69 = .ok (.bipush 10, 2) := by decide +kernel
theorem dX6_bracket_71 : decode cX6_bracket 71 = .ok (.ireturn, 1) := by decide +kernel
theorem dX6_bracket_72 : decode cX6_bracket 72 = .ok (.iload_n 1, 1) := by decide +kernel
theorem dX6_bracket_73 : decode cX6_bracket 73 = .ok (.bipush 41, 2) := by decide +kernel
theorem dX6_bracket_75 : decode cX6_bracket 75 = .ok (.if_icmp .ne 6, 3) := by decide +kernel
theorem dX6_bracket_78 : decode cX6_bracket 78 = .ok (.bipush (-4), 2) := by decide +kernel
theorem dX6_bracket_80 : decode cX6_bracket 80 = .ok (.ireturn, 1) := by decide +kernel
theorem dX6_bracket_81 : decode cX6_bracket 81 = .ok (.aload_n 0, 1) := by decide +kernel
theorem dX6_bracket_82 : decode cX6_bracket 82 = .ok (.getfield 102, 3) := by decide +kernel
theorem dX6_bracket_85 : decode cX6_bracket 85 = .ok (.aload_n 0, 1) := by decide +kernel
theorem dX6_bracket_86 : decode cX6_bracket 86 = .ok (.getfield 40, 3) := by decide +kernel
theorem dX6_bracket_89 : decode cX6_bracket 89 = .ok (.if_icmp .ne 12, 3) := by decide +kernel
theorem dX6_bracket_92 : decode cX6_bracket 92 = .ok (.aload_n 0, 1) := by decide +kernel
theorem dX6_bracket_93 : decode cX6_bracket 93 = .ok (.getfield 53, 3) := by decide +kernel
theorem dX6_bracket_96 : decode cX6_bracket 96 = .ok (.ifCond .ne 5, 3) := by decide +kernel
theorem dX6_bracket_99 : decode cX6_bracket 99 = .ok (.iconst 0, 1) := by decide +kernel
theorem dX6_bracket_100 : decode cX6_bracket 100 = .ok (.ireturn, 1) := by decide +kernel
theorem dX6_bracket_101 : decode cX6_bracket 101 = .ok (.aload_n 0, 1) := by decide +kernel
theorem dX6_bracket_102 : decode cX6_bracket 102 = .ok (.aload_n 0, 1) := by decide +kernel
theorem dX6_bracket_103 : decode cX6_bracket 103 = .ok (.getfield 102, 3) := by decide +kernel
theorem dX6_bracket_106 : decode cX6_bracket 106 = .ok (.invokevirtual 63, 3) := by decide +kernel
theorem dX6_bracket_109 : decode cX6_bracket 109 = .ok (.bipush 62, 2) := by decide +kernel
theorem dX6_bracket_111 : decode cX6_bracket 111 = .ok (.if_icmp .eq 6, 3) := by decide +kernel
theorem dX6_bracket_114 : decode cX6_bracket 114 = .ok (.bipush (-4), 2) := by decide +kernel
theorem dX6_bracket_116 : decode cX6_bracket 116 = .ok (.ireturn, 1) := by decide +kernel
theorem dX6_bracket_117 : decode cX6_bracket 117 = .ok (.aload_n 0, 1) := by decide +kernel
theorem dX6_bracket_118 : decode cX6_bracket 118 = .ok (.dup, 1) := by decide +kernel
theorem dX6_bracket_119 : decode cX6_bracket 119 = .ok (.getfield 102, 3) := by decide +kernel
theorem dX6_bracket_122 : decode cX6_bracket 122 = .ok (.iconst 1, 1) := by decide +kernel
theorem dX6_bracket_123 : decode cX6_bracket 123 = .ok (.iadd, 1) := by decide +kernel
theorem dX6_bracket_124 : decode cX6_bracket 124 = .ok (.putfield 102, 3) := by decide +kernel
theorem dX6_bracket_127 : decode cX6_bracket 127 = .ok (.bipush 12, 2) := by decide +kernel
theorem dX6_bracket_129 : decode cX6_bracket 129 = .ok (.ireturn, 1) := by decide +kernel
theorem dX6_read_0 : decode cX6_read 0 = .ok (.iload_n 1, 1) := by decide +kernel
theorem dX6_read_1 : decode cX6_read 1 = .ok (.invokestatic 105, 3) := by decide +kernel
theorem dX6_read_4 : decode cX6_read 4 = .ok (.ifCond .eq 8, 3) := by decide +kernel
theorem dX6_read_7 : decode cX6_read 7 = .ok (.aload_n 0, 1) := by decide +kernel
theorem dX6_read_8 : decode cX6_read 8 = .ok (.invokevirtual 215, 3) := by decide +kernel
theorem dX6_read_11 : decode cX6_read 11 = .ok (.ireturn, 1) := by decide +kernel
theorem dX6_read_12 : decode cX6_read 12 = .ok (.iload_n 1, 1) := by decide +kernel
theorem dX6_read_13 : decode cX6_read 13 = .ok (.bipush 47, 2) := by decide +kernel
theorem dX6_read_15 : decode cX6_read 15 = .ok (.if_icmp .ne 8, 3) := by decide +kernel
theorem dX6_read_18 : decode cX6_read 18 = .ok (.aload_n 0, 1) := by decide +kernel
theorem dX6_read_19 : decode cX6_read 19 = .ok (.invokevirtual 218, 3) := by decide +kernel
theorem dX6_read_22 : decode cX6_read 22 = .ok (.ireturn, 1) := by decide +kernel
theorem dX6_read_23 : decode cX6_read 23 = .ok (.iload_n 1, 1) := by decide +kernel
theorem dX6_read_24 : decode cX6_read 24 = .ok (.bipush 40, 2) := by decide +kernel
theorem dX6_read_26 : decode cX6_read 26 = .ok (.if_icmp .ne 8, 3) := by decide +kernel
theorem dX6_read_29 : decode cX6_read 29 = .ok (.aload_n 0, 1) := by decide +kernel
theorem dX6_read_30 : decode cX6_read 30 = .ok (.invokevirtual 221, 3) := by decide +kernel
theorem dX6_read_33 : decode cX6_read 33 = .ok (.ireturn, 1) := by decide +kernel
theorem dX6_read_34 : decode cX6_read 34 = .ok (.iload_n 1, 1) := by decide +kernel
theorem dX6_read_35 : decode cX6_read 35 = .ok (.bipush 60, 2) := by decide +kernel
theorem dX6_read_37 : decode cX6_read 37 = .ok (.if_icmp .ne 8, 3) := by decide +kernel
theorem dX6_read_40 : decode cX6_read 40 = .ok (.aload_n 0, 1) := by decide +kernel
theorem dX6_read_41 : decode cX6_read 41 = .ok (.invokevirtual 224, 3) := by decide +kernel
theorem dX6_read_44 : decode cX6_read 44 = .ok (.ireturn, 1) := by decide +kernel
theorem dX6_read_45 : decode cX6_read 45 = .ok (.iload_n 1, 1) := by decide +kernel
theorem dX6_read_46 : decode cX6_read 46 = .ok (.bipush 127, 2) := by decide +kernel
theorem dX6_read_48 : decode cX6_read 48 = .ok (.if_icmp .le 11, 3) := by decide +kernel
theorem dX6_read_51 : decode cX6_read 51 = .ok (.aload_n 0, 1) := by decide +kernel
theorem dX6_read_52 : decode cX6_read 52 = .ok (.iload_n 1, 1) := by decide +kernel
theorem dX6_read_53 : decode cX6_read 53 = .ok (.invokevirtual 227, 3) := by decide +kernel
theorem dX6_read_56 : decode cX6_read 56 = .ok (.goto 8, 3) := by decide +kernel
theorem dX6_read_59 : decode cX6_read 59 = .ok (.aload_n 0, 1) := by decide +kernel
theorem dX6_read_60 : decode cX6_read 60 = .ok (.iload_n 1, 1) := by decide +kernel
theorem dX6_read_61 : decode cX6_read 61 = .ok (.invokevirtual 230, 3) := by decide +kernel
theorem dX6_read_64 : decode cX6_read 64 = .ok (.ireturn, 1) := by decide +kernel
theorem dX6_passBlanks_0 : decode cX6_passBlanks 0 = .ok (.aload_n 0, 1) := by decide +kernel
theorem dX6_passBlanks_1 : decode cX6_passBlanks 1 = .ok (.aload_n 0, 1) := by decide +kernel
theorem dX6_passBlanks_2 : decode cX6_passBlanks 2 = .ok (.getfield 57, 3) := by decide +kernel
theorem dX6_passBlanks_5 : decode cX6_passBlanks 5 = .ok (.putfield 102, 3) := by decide +kernel
theorem dX6_passBlanks_8 : decode cX6_passBlanks 8 = .ok (.iconst 1, 1) := by decide +kernel
theorem dX6_passBlanks_9 : decode cX6_passBlanks 9 = .ok (.istore_n 1, 1) := by decide +kernel
theorem dX6_passBlanks_10 : decode cX6_passBlanks 10 = .ok (.iload_n 1, 1) := by decide +kernel
theorem dX6_passBlanks_11 : decode cX6_passBlanks 11 = .ok (.ifCond .eq 111, 3) := by decide +kernel
theorem dX6_passBlanks_14 : decode cX6_passBlanks 14 = .ok (.aload_n 0, 1) := by decide +kernel
theorem dX6_passBlanks_15 : decode cX6_passBlanks 15 = .ok (.aload_n 0, 1) := by decide +kernel
theorem dX6_passBlanks_16 : decode cX6_passBlanks 16 = .ok (.getfield 102, 3) := by decide +kernel
theorem dX6_passBlanks_19 : decode cX6_passBlanks 19 = .ok (.invokevirtual 63, 3) := by decide +kernel
theorem dX6_passBlanks_22 : decode cX6_passBlanks 22 = .ok (.invokestatic 46, 3) := by decide +kernel
theorem dX6_passBlanks_25 : decode cX6_passBlanks 25 = .ok (.ifCond .eq 16, 3) := by decide +kernel
theorem dX6_passBlanks_28 : decode cX6_passBlanks 28 = .ok (.aload_n 0, 1) := by decide +kernel
theorem dX6_passBlanks_29 : decode cX6_passBlanks 29 = .ok (.dup, 1) := by decide +kernel
theorem dX6_passBlanks_30 : decode cX6_passBlanks 30 = .ok (.getfield 102, 3) := by decide +kernel
theorem dX6_passBlanks_33 : decode cX6_passBlanks 33 = .ok (.iconst 1, 1) := by decide +kernel
theorem dX6_passBlanks_34 : decode cX6_passBlanks 34 = .ok (.iadd, 1) := by decide +kernel
theorem dX6_passBlanks_35 : decode cX6_passBlanks 35 = .ok (.putfield 102, 3) := by decide +kernel
theorem dX6_passBlanks_38 : decode cX6_passBlanks 38 = .ok (.goto (-28), 3) := by decide +kernel
theorem dX6_passBlanks_41 : decode cX6_passBlanks 41 = .ok (.aload_n 0, 1) := by decide +kernel
theorem dX6_passBlanks_42 : decode cX6_passBlanks 42 = .ok (.aload_n 0, 1) := by decide +kernel
theorem dX6_passBlanks_43 : decode cX6_passBlanks 43 = .ok (.getfield 102, 3) := by decide +kernel
theorem dX6_passBlanks_46 : decode cX6_passBlanks 46 = .ok (.invokevirtual 63, 3) := by decide +kernel
theorem dX6_passBlanks_49 : decode cX6_passBlanks 49 = .ok (.bipush 37, 2) := by decide +kernel
theorem dX6_passBlanks_51 : decode cX6_passBlanks 51 = .ok (.if_icmp .ne 66, 3) := by decide +kernel
theorem dX6_passBlanks_54 : decode cX6_passBlanks 54 = .ok (.aload_n 0, 1) := by decide +kernel
theorem dX6_passBlanks_55 : decode cX6_passBlanks 55 = .ok (.getfield 102, 3) := by decide +kernel
theorem dX6_passBlanks_58 : decode cX6_passBlanks 58 = .ok (.aload_n 0, 1) := by decide +kernel
theorem dX6_passBlanks_59 : decode cX6_passBlanks 59 = .ok (.getfield 40, 3) := by decide +kernel
theorem dX6_passBlanks_62 : decode cX6_passBlanks 62 = .ok (.if_icmp .ge (-52), 3) := by decide +kernel
theorem dX6_passBlanks_65 : decode cX6_passBlanks 65 = .ok (.aload_n 0, 1) := by decide +kernel
theorem dX6_passBlanks_66 : decode cX6_passBlanks 66 = .ok (.aload_n 0, 1) := by decide +kernel
theorem dX6_passBlanks_67 : decode cX6_passBlanks 67 = .ok (.getfield 102, 3) := by decide +kernel
theorem dX6_passBlanks_70 : decode cX6_passBlanks 70 = .ok (.invokevirtual 63, 3) := by decide +kernel
theorem dX6_passBlanks_73 : decode cX6_passBlanks 73 = .ok (.bipush 10, 2) := by decide +kernel
theorem dX6_passBlanks_75 : decode cX6_passBlanks 75 = .ok (.if_icmp .eq (-65), 3) := by decide +kernel
theorem dX6_passBlanks_78 : decode cX6_passBlanks 78 = .ok (.aload_n 0, 1) := by decide +kernel
theorem dX6_passBlanks_79 : decode cX6_passBlanks 79 = .ok (.aload_n 0, 1) := by decide +kernel
theorem dX6_passBlanks_80 : decode cX6_passBlanks 80 = .ok (.getfield 102, 3) := by decide +kernel
theorem dX6_passBlanks_83 : decode cX6_passBlanks 83 = .ok (.invokevirtual 63, 3) := by decide +kernel
theorem dX6_passBlanks_86 : decode cX6_passBlanks 86 = .ok (.bipush 12, 2) := by decide +kernel
theorem dX6_passBlanks_88 : decode cX6_passBlanks 88 = .ok (.if_icmp .eq (-78), 3) := by decide +kernel
theorem dX6_passBlanks_91 : decode cX6_passBlanks 91 = .ok (.aload_n 0, 1) := by decide +kernel
theorem dX6_passBlanks_92 : decode cX6_passBlanks 92 = .ok (.aload_n 0, 1) := by decide +kernel
theorem dX6_passBlanks_93 : decode cX6_passBlanks 93 = .ok (.getfield 102, 3) := by decide +kernel
theorem dX6_passBlanks_96 : decode cX6_passBlanks 96 = .ok (.invokevirtual 63, 3) := by decide +kernel
theorem dX6_passBlanks_99 : decode cX6_passBlanks 99 = .ok (.bipush 13, 2) := by decide +kernel
theorem dX6_passBlanks_101 : decode cX6_passBlanks 101 = .ok (.if_icmp .eq (-91), 3) := by decide +kernel
theorem dX6_passBlanks_104 : decode cX6_passBlanks 104 = .ok (.aload_n 0, 1) := by decide +kernel
theorem dX6_passBlanks_105 : decode cX6_passBlanks 105 = .ok (.dup, 1) := by decide +kernel
theorem dX6_passBlanks_106 : decode cX6_passBlanks 106 = .ok (.getfield 102, 3) := by decide +kernel
theorem dX6_passBlanks_109 : decode cX6_passBlanks 109 = .ok (.iconst 1, 1) := by decide +kernel
theorem dX6_passBlanks_110 : decode cX6_passBlanks 110 = .ok (.iadd, 1) := by decide +kernel
theorem dX6_passBlanks_111 : decode cX6_passBlanks 111 = .ok (.putfield 102, 3) := by decide +kernel
theorem dX6_passBlanks_114 : decode cX6_passBlanks 114 = .ok (.goto (-60), 3) := by decide +kernel
theorem dX6_passBlanks_117 : decode cX6_passBlanks 117 = .ok (.iconst 0, 1) := by decide +kernel
theorem dX6_passBlanks_118 : decode cX6_passBlanks 118 = .ok (.istore_n 1, 1) := by decide +kernel
theorem dX6_passBlanks_119 : decode cX6_passBlanks 119 = .ok (.goto (-109), 3) := by decide +kernel
theorem dX6_passBlanks_122 : decode cX6_passBlanks 122 = .ok (.return_, 1) := by decide +kernel
theorem dX6_keep_0 : decode cX6_keep 0 = .ok (.aload_n 0, 1) := by decide +kernel
theorem dX6_keep_1 : decode cX6_keep 1 = .ok (.iload_n 1, 1) := by decide +kernel
theorem dX6_keep_2 : decode cX6_keep 2 = .ok (.putfield 233, 3) := by decide +kernel
theorem dX6_keep_5 : decode cX6_keep 5 = .ok (.aload_n 0, 1) := by decide +kernel
theorem dX6_keep_6 : decode cX6_keep 6 = .ok (.iload_n 1, 1) := by decide +kernel
theorem dX6_keep_7 : decode cX6_keep 7 = .ok (.iconst 2, 1) := by decide +kernel
theorem dX6_keep_8 : decode cX6_keep 8 = .ok (.if_icmp .eq 15, 3) := by decide +kernel
theorem dX6_keep_11 : decode cX6_keep 11 = .ok (.iload_n 1, 1) := by decide +kernel
theorem dX6_keep_12 : decode cX6_keep 12 = .ok (.bipush 7, 2) := by decide +kernel
theorem dX6_keep_14 : decode cX6_keep 14 = .ok (.if_icmp .lt 13, 3) := by decide +kernel
theorem dX6_keep_17 : decode cX6_keep 17 = .ok (.iload_n 1, 1) := by decide +kernel
theorem dX6_keep_18 : decode cX6_keep 18 = .ok (.bipush 12, 2) := by decide +kernel
theorem dX6_keep_20 : decode cX6_keep 20 = .ok (.if_icmp .gt 7, 3) := by decide +kernel
theorem dX6_keep_23 : decode cX6_keep 23 = .ok (.lconst 0, 1) := by decide +kernel
theorem dX6_keep_24 : decode cX6_keep 24 = .ok (.goto 7, 3) := by decide +kernel
theorem dX6_keep_27 : decode cX6_keep 27 = .ok (.aload_n 0, 1) := by decide +kernel
theorem dX6_keep_28 : decode cX6_keep 28 = .ok (.getfield 77, 3) := by decide +kernel
theorem dX6_keep_31 : decode cX6_keep 31 = .ok (.putfield 236, 3) := by decide +kernel
theorem dX6_keep_34 : decode cX6_keep 34 = .ok (.aload_n 0, 1) := by decide +kernel
theorem dX6_keep_35 : decode cX6_keep 35 = .ok (.iload_n 1, 1) := by decide +kernel
theorem dX6_keep_36 : decode cX6_keep 36 = .ok (.iconst 2, 1) := by decide +kernel
theorem dX6_keep_37 : decode cX6_keep 37 = .ok (.if_icmp .ne 10, 3) := by decide +kernel
theorem dX6_keep_40 : decode cX6_keep 40 = .ok (.aload_n 0, 1) := by decide +kernel
theorem dX6_keep_41 : decode cX6_keep 41 = .ok (.getfield 93, 3) := by decide +kernel
theorem dX6_keep_44 : decode cX6_keep 44 = .ok (.goto 4, 3) := by decide +kernel
theorem dX6_keep_47 : decode cX6_keep 47 = .ok (.dconst 0, 1) := by decide +kernel
theorem dX6_keep_48 : decode cX6_keep 48 = .ok (.putfield 239, 3) := by decide +kernel
theorem dX6_keep_51 : decode cX6_keep 51 = .ok (.aload_n 0, 1) := by decide +kernel
theorem dX6_keep_52 : decode cX6_keep 52 = .ok (.iload_n 1, 1) := by decide +kernel
theorem dX6_keep_53 : decode cX6_keep 53 = .ok (.iconst 3, 1) := by decide +kernel
theorem dX6_keep_54 : decode cX6_keep 54 = .ok (.if_icmp .lt 16, 3) := by decide +kernel
theorem dX6_keep_57 : decode cX6_keep 57 = .ok (.iload_n 1, 1) := by decide +kernel
theorem dX6_keep_58 : decode cX6_keep 58 = .ok (.bipush 6, 2) := by decide +kernel
theorem dX6_keep_60 : decode cX6_keep 60 = .ok (.if_icmp .gt 10, 3) := by decide +kernel
theorem dX6_keep_63 : decode cX6_keep 63 = .ok (.aload_n 0, 1) := by decide +kernel
theorem dX6_keep_64 : decode cX6_keep 64 = .ok (.getfield 99, 3) := by decide +kernel
theorem dX6_keep_67 : decode cX6_keep 67 = .ok (.goto 4, 3) := by decide +kernel
theorem dX6_keep_70 : decode cX6_keep 70 = .ok (.iconst 0, 1) := by decide +kernel
theorem dX6_keep_71 : decode cX6_keep 71 = .ok (.putfield 242, 3) := by decide +kernel
theorem dX6_keep_74 : decode cX6_keep 74 = .ok (.iconst 0, 1) := by decide +kernel
theorem dX6_keep_75 : decode cX6_keep 75 = .ok (.istore_n 2, 1) := by decide +kernel
theorem dX6_keep_76 : decode cX6_keep 76 = .ok (.iload_n 2, 1) := by decide +kernel
theorem dX6_keep_77 : decode cX6_keep 77 = .ok (.aload_n 0, 1) := by decide +kernel
theorem dX6_keep_78 : decode cX6_keep 78 = .ok (.getfield 242, 3) := by decide +kernel
theorem dX6_keep_81 : decode cX6_keep 81 = .ok (.if_icmp .ge 21, 3) := by decide +kernel
theorem dX6_keep_84 : decode cX6_keep 84 = .ok (.aload_n 0, 1) := by decide +kernel
theorem dX6_keep_85 : decode cX6_keep 85 = .ok (.getfield 21, 3) := by decide +kernel
theorem dX6_keep_88 : decode cX6_keep 88 = .ok (.iload_n 2, 1) := by decide +kernel
theorem dX6_keep_89 : decode cX6_keep 89 = .ok (.aload_n 0, 1) := by decide +kernel
theorem dX6_keep_90 : decode cX6_keep 90 = .ok (.getfield 31, 3) := by decide +kernel
theorem dX6_keep_93 : decode cX6_keep 93 = .ok (.iload_n 2, 1) := by decide +kernel
theorem dX6_keep_94 : decode cX6_keep 94 = .ok (.baload, 1) := by decide +kernel
theorem dX6_keep_95 : decode cX6_keep 95 = .ok (.bastore, 1) := by decide +kernel
theorem dX6_keep_96 : decode cX6_keep 96 = .ok (.iinc 2 1, 3) := by decide +kernel
theorem dX6_keep_99 : decode cX6_keep 99 = .ok (.goto (-23), 3) := by decide +kernel
theorem dX6_keep_102 : decode cX6_keep 102 = .ok (.aload_n 0, 1) := by decide +kernel
theorem dX6_keep_103 : decode cX6_keep 103 = .ok (.iload_n 1, 1) := by decide +kernel
theorem dX6_keep_104 : decode cX6_keep 104 = .ok (.bipush 16, 2) := by decide +kernel
theorem dX6_keep_106 : decode cX6_keep 106 = .ok (.if_icmp .ne 10, 3) := by decide +kernel
theorem dX6_keep_109 : decode cX6_keep 109 = .ok (.aload_n 0, 1) := by decide +kernel
theorem dX6_keep_110 : decode cX6_keep 110 = .ok (.getfield 190, 3) := by decide +kernel
theorem dX6_keep_113 : decode cX6_keep 113 = .ok (.goto 4, 3) := by decide +kernel
theorem dX6_keep_116 : decode cX6_keep 116 = .ok (.iconst 0, 1) := by decide +kernel
theorem dX6_keep_117 : decode cX6_keep 117 = .ok (.putfield 245, 3) := by decide +kernel
theorem dX6_keep_120 : decode cX6_keep 120 = .ok (.aload_n 0, 1) := by decide +kernel
theorem dX6_keep_121 : decode cX6_keep 121 = .ok (.aload_n 0, 1) := by decide +kernel
theorem dX6_keep_122 : decode cX6_keep 122 = .ok (.getfield 183, 3) := by decide +kernel
theorem dX6_keep_125 : decode cX6_keep 125 = .ok (.putfield 248, 3) := by decide +kernel
theorem dX6_keep_128 : decode cX6_keep 128 = .ok (.iconst 0, 1) := by decide +kernel
theorem dX6_keep_129 : decode cX6_keep 129 = .ok (.istore_n 2, 1) := by decide +kernel
theorem dX6_keep_130 : decode cX6_keep 130 = .ok (.iload_n 2, 1) := by decide +kernel
theorem dX6_keep_131 : decode cX6_keep 131 = .ok (.aload_n 0, 1) := by decide +kernel
theorem dX6_keep_132 : decode cX6_keep 132 = .ok (.getfield 245, 3) := by decide +kernel
theorem dX6_keep_135 : decode cX6_keep 135 = .ok (.if_icmp .ge 33, 3) := by decide +kernel
theorem dX6_keep_138 : decode cX6_keep 138 = .ok (.aload_n 0, 1) := by decide +kernel
theorem dX6_keep_139 : decode cX6_keep 139 = .ok (.getfield 24, 3) := by decide +kernel
theorem dX6_keep_142 : decode cX6_keep 142 = .ok (.iload_n 2, 1) := by decide +kernel
theorem dX6_keep_143 : decode cX6_keep 143 = .ok (.aload_n 0, 1) := by decide +kernel
theorem dX6_keep_144 : decode cX6_keep 144 = .ok (.getfield 34, 3) := by decide +kernel
theorem dX6_keep_147 : decode cX6_keep 147 = .ok (.iload_n 2, 1) := by decide +kernel
theorem dX6_keep_148 : decode cX6_keep 148 = .ok (.iaload, 1) := by decide +kernel
theorem dX6_keep_149 : decode cX6_keep 149 = .ok (.iastore, 1) := by decide +kernel
theorem dX6_keep_150 : decode cX6_keep 150 = .ok (.aload_n 0, 1) := by decide +kernel
theorem dX6_keep_151 : decode cX6_keep 151 = .ok (.getfield 27, 3) := by decide +kernel
theorem dX6_keep_154 : decode cX6_keep 154 = .ok (.iload_n 2, 1) := by decide +kernel
theorem dX6_keep_155 : decode cX6_keep 155 = .ok (.aload_n 0, 1) := by decide +kernel
theorem dX6_keep_156 : decode cX6_keep 156 = .ok (.getfield 37, 3) := by decide +kernel
theorem dX6_keep_159 : decode cX6_keep 159 = .ok (.iload_n 2, 1) := by decide +kernel
theorem dX6_keep_160 : decode cX6_keep 160 = .ok (.daload, 1) := by decide +kernel
theorem dX6_keep_161 : decode cX6_keep 161 = .ok (.dastore, 1) := by decide +kernel
theorem dX6_keep_162 : decode cX6_keep 162 = .ok (.iinc 2 1, 3) := by decide +kernel
theorem dX6_keep_165 : decode cX6_keep 165 = .ok (.goto (-35), 3) := by decide +kernel
theorem dX6_keep_168 : decode cX6_keep 168 = .ok (.aload_n 0, 1) := by decide +kernel
theorem dX6_keep_169 : decode cX6_keep 169 = .ok (.iload_n 1, 1) := by decide +kernel
theorem dX6_keep_170 : decode cX6_keep 170 = .ok (.iconst 1, 1) := by decide +kernel
theorem dX6_keep_171 : decode cX6_keep 171 = .ok (.if_icmp .ne 17, 3) := by decide +kernel
theorem dX6_keep_174 : decode cX6_keep 174 = .ok (.aload_n 0, 1) := by decide +kernel
theorem dX6_keep_175 : decode cX6_keep 175 = .ok (.getfield 81, 3) := by decide +kernel
theorem dX6_keep_178 : decode cX6_keep 178 = .ok (.ifCond .le 10, 3) := by decide +kernel
theorem dX6_keep_181 : decode cX6_keep 181 = .ok (.aload_n 0, 1) := by decide +kernel
theorem dX6_keep_182 : decode cX6_keep 182 = .ok (.getfield 81, 3) := by decide +kernel
theorem dX6_keep_185 : decode cX6_keep 185 = .ok (.goto 7, 3) := by decide +kernel
theorem dX6_keep_188 : decode cX6_keep 188 = .ok (.aload_n 0, 1) := by decide +kernel
theorem dX6_keep_189 : decode cX6_keep 189 = .ok (.getfield 17, 3) := by decide +kernel
theorem dX6_keep_192 : decode cX6_keep 192 = .ok (.putfield 17, 3) := by decide +kernel
theorem dX6_keep_195 : decode cX6_keep 195 = .ok (.iload_n 1, 1) := by decide +kernel
theorem dX6_keep_196 : decode cX6_keep 196 = .ok (.bipush 9, 2) := by decide +kernel
theorem dX6_keep_198 : decode cX6_keep 198 = .ok (.if_icmp .ne 26, 3) := by decide +kernel
theorem dX6_keep_201 : decode cX6_keep 201 = .ok (.aload_n 0, 1) := by decide +kernel
theorem dX6_keep_202 : decode cX6_keep 202 = .ok (.getfield 13, 3) := by decide +kernel
theorem dX6_keep_205 : decode cX6_keep 205 = .ok (.aload_n 0, 1) := by decide +kernel
theorem dX6_keep_206 : decode cX6_keep 206 = .ok (.getfield 212, 3) := by decide +kernel
theorem dX6_keep_209 : decode cX6_keep 209 = .ok (.aload_n 0, 1) := by decide +kernel
theorem dX6_keep_210 : decode cX6_keep 210 = .ok (.getfield 135, 3) := by decide +kernel
theorem dX6_keep_213 : decode cX6_keep 213 = .ok (.iastore, 1) := by decide +kernel
theorem dX6_keep_214 : decode cX6_keep 214 = .ok (.aload_n 0, 1) := by decide +kernel
theorem dX6_keep_215 : decode cX6_keep 215 = .ok (.dup, 1) := by decide +kernel
theorem dX6_keep_216 : decode cX6_keep 216 = .ok (.getfield 212, 3) := by decide +kernel
theorem dX6_keep_219 : decode cX6_keep 219 = .ok (.iconst 1, 1) := by decide +kernel
theorem dX6_keep_220 : decode cX6_keep 220 = .ok (.iadd, 1) := by decide +kernel
theorem dX6_keep_221 : decode cX6_keep 221 = .ok (.putfield 212, 3) := by decide +kernel
theorem dX6_keep_224 : decode cX6_keep 224 = .ok (.aload_n 0, 1) := by decide +kernel
theorem dX6_keep_225 : decode cX6_keep 225 = .ok (.iload_n 1, 1) := by decide +kernel
theorem dX6_keep_226 : decode cX6_keep 226 = .ok (.bipush 10, 2) := by decide +kernel
theorem dX6_keep_228 : decode cX6_keep 228 = .ok (.if_icmp .ne 12, 3) := by decide +kernel
theorem dX6_keep_231 : decode cX6_keep 231 = .ok (.aload_n 0, 1) := by decide +kernel
theorem dX6_keep_232 : decode cX6_keep 232 = .ok (.getfield 212, 3) := by decide +kernel
theorem dX6_keep_235 : decode cX6_keep 235 = .ok (.iconst 1, 1) := by decide +kernel
theorem dX6_keep_236 : decode cX6_keep 236 = .ok (.isub, 1) := by decide +kernel
theorem dX6_keep_237 : decode cX6_keep 237 = .ok (.goto 7, 3) := by decide +kernel
theorem dX6_keep_240 : decode cX6_keep 240 = .ok (.aload_n 0, 1) := by decide +kernel
theorem dX6_keep_241 : decode cX6_keep 241 = .ok (.getfield 212, 3) := by decide +kernel
theorem dX6_keep_244 : decode cX6_keep 244 = .ok (.putfield 212, 3) := by decide +kernel
theorem dX6_keep_247 : decode cX6_keep 247 = .ok (.return_, 1) := by decide +kernel
theorem dX6_next_0 : decode cX6_next 0 = .ok (.aload_n 0, 1) := by decide +kernel
theorem dX6_next_1 : decode cX6_next 1 = .ok (.iconst 0, 1) := by decide +kernel
theorem dX6_next_2 : decode cX6_next 2 = .ok (.putfield 43, 3) := by decide +kernel
theorem dX6_next_5 : decode cX6_next 5 = .ok (.aload_n 0, 1) := by decide +kernel
theorem dX6_next_6 : decode cX6_next 6 = .ok (.invokevirtual 251, 3) := by decide +kernel
theorem dX6_next_9 : decode cX6_next 9 = .ok (.aload_n 0, 1) := by decide +kernel
theorem dX6_next_10 : decode cX6_next 10 = .ok (.getfield 102, 3) := by decide +kernel
theorem dX6_next_13 : decode cX6_next 13 = .ok (.aload_n 0, 1) := by decide +kernel
theorem dX6_next_14 : decode cX6_next 14 = .ok (.getfield 40, 3) := by decide +kernel
theorem dX6_next_17 : decode cX6_next 17 = .ok (.if_icmp .lt 53, 3) := by decide +kernel
theorem dX6_next_20 : decode cX6_next 20 = .ok (.aload_n 0, 1) := by decide +kernel
theorem dX6_next_21 : decode cX6_next 21 = .ok (.getfield 53, 3) := by decide +kernel
theorem dX6_next_24 : decode cX6_next 24 = .ok (.ifCond .ne 5, 3) := by decide +kernel
theorem dX6_next_27 : decode cX6_next 27 = .ok (.iconst 0, 1) := by decide +kernel
theorem dX6_next_28 : decode cX6_next 28 = .ok (.ireturn, 1) := by decide +kernel
theorem dX6_next_29 : decode cX6_next 29 = .ok (.aload_n 0, 1) := by decide +kernel
theorem dX6_next_30 : decode cX6_next 30 = .ok (.aload_n 0, 1) := by decide +kernel
theorem dX6_next_31 : decode cX6_next 31 = .ok (.getfield 40, 3) := by decide +kernel
theorem dX6_next_34 : decode cX6_next 34 = .ok (.putfield 57, 3) := by decide +kernel
theorem dX6_next_37 : decode cX6_next 37 = .ok (.aload_n 0, 1) := by decide +kernel
theorem dX6_next_38 : decode cX6_next 38 = .ok (.getfield 212, 3) := by decide +kernel
theorem dX6_next_41 : decode cX6_next 41 = .ok (.ifCond .ne 6, 3) := by decide +kernel
theorem dX6_next_44 : decode cX6_next 44 = .ok (.bipush 20, 2) := by decide +kernel
theorem dX6_next_46 : decode cX6_next 46 = .ok (.ireturn, 1) := by decide +kernel
theorem dX6_next_47 : decode cX6_next 47 = .ok (.aload_n 0, 1) := by decide +kernel
theorem dX6_next_48 : decode cX6_next 48 = .ok (.aload_n 0, 1) := by decide +kernel
theorem dX6_next_49 : decode cX6_next 49 = .ok (.getfield 13, 3) := by decide +kernel
theorem dX6_next_52 : decode cX6_next 52 = .ok (.aload_n 0, 1) := by decide +kernel
theorem dX6_next_53 : decode cX6_next 53 = .ok (.getfield 212, 3) := by decide +kernel
theorem dX6_next_56 : decode cX6_next 56 = .ok (.iconst 1, 1) := by decide +kernel
theorem dX6_next_57 : decode cX6_next 57 = .ok (.isub, 1) := by decide +kernel
theorem dX6_next_58 : decode cX6_next 58 = .ok (.iaload, 1) := by decide +kernel
theorem dX6_next_59 : decode cX6_next 59 = .ok (.putfield 254, 3) := by decide +kernel
theorem dX6_next_62 : decode cX6_next 62 = .ok (.aload_n 0, 1) := by decide +kernel
theorem dX6_next_63 : decode cX6_next 63 = .ok (.iconst 0, 1) := by decide +kernel
theorem dX6_next_64 : decode cX6_next 64 = .ok (.putfield 212, 3) := by decide +kernel
theorem dX6_next_67 : decode cX6_next 67 = .ok (.bipush (-7), 2) := by decide +kernel
theorem dX6_next_69 : decode cX6_next 69 = .ok (.ireturn, 1) := by decide +kernel
theorem dX6_next_70 : decode cX6_next 70 = .ok (.aload_n 0, 1) := by decide +kernel
theorem dX6_next_71 : decode cX6_next 71 = .ok (.aload_n 0, 1) := by decide +kernel
theorem dX6_next_72 : decode cX6_next 72 = .ok (.getfield 102, 3) := by decide +kernel
theorem dX6_next_75 : decode cX6_next 75 = .ok (.putfield 135, 3) := by decide +kernel
theorem dX6_next_78 : decode cX6_next 78 = .ok (.aload_n 0, 1) := by decide +kernel
theorem dX6_next_79 : decode cX6_next 79 = .ok (.iconst 0, 1) := by decide +kernel
theorem dX6_next_80 : decode cX6_next 80 = .ok (.putfield 99, 3) := by decide +kernel
theorem dX6_next_83 : decode cX6_next 83 = .ok (.aload_n 0, 1) := by decide +kernel
theorem dX6_next_84 : decode cX6_next 84 = .ok (.iconst 0, 1) := by decide +kernel
theorem dX6_next_85 : decode cX6_next 85 = .ok (.putfield 81, 3) := by decide +kernel
theorem dX6_next_88 : decode cX6_next 88 = .ok (.aload_n 0, 1) := by decide +kernel
theorem dX6_next_89 : decode cX6_next 89 = .ok (.iconst 0, 1) := by decide +kernel
theorem dX6_next_90 : decode cX6_next 90 = .ok (.putfield 171, 3) := by decide +kernel
theorem dX6_next_93 : decode cX6_next 93 = .ok (.aload_n 0, 1) := by decide +kernel
theorem dX6_next_94 : decode cX6_next 94 = .ok (.aload_n 0, 1) := by decide +kernel
theorem dX6_next_95 : decode cX6_next 95 = .ok (.aload_n 0, 1) := by decide +kernel
theorem dX6_next_96 : decode cX6_next 96 = .ok (.getfield 102, 3) := by decide +kernel
theorem dX6_next_99 : decode cX6_next 99 = .ok (.invokevirtual 63, 3) := by decide +kernel
theorem dX6_next_102 : decode cX6_next 102 = .ok (.invokevirtual 257, 3) := by decide +kernel
theorem dX6_next_105 : decode cX6_next 105 = .ok (.istore_n 1, 1) := by decide +kernel
theorem dX6_next_106 : decode cX6_next 106 = .ok (.iload_n 1, 1) := by decide +kernel
theorem dX6_next_107 : decode cX6_next 107 = .ok (.ifCond .ne 5, 3) := by decide +kernel
theorem dX6_next_110 : decode cX6_next 110 = .ok (.iconst 0, 1) := by decide +kernel
theorem dX6_next_111 : decode cX6_next 111 = .ok (.ireturn, 1) := by decide +kernel
theorem dX6_next_112 : decode cX6_next 112 = .ok (.aload_n 0, 1) := by decide +kernel
theorem dX6_next_113 : decode cX6_next 113 = .ok (.aload_n 0, 1) := by decide +kernel
theorem dX6_next_114 : decode cX6_next 114 = .ok (.getfield 102, 3) := by decide +kernel
theorem dX6_next_117 : decode cX6_next 117 = .ok (.putfield 57, 3) := by decide +kernel
theorem dX6_next_120 : decode cX6_next 120 = .ok (.aload_n 0, 1) := by decide +kernel
theorem dX6_next_121 : decode cX6_next 121 = .ok (.aload_n 0, 1) := by decide +kernel
theorem dX6_next_122 : decode cX6_next 122 = .ok (.getfield 135, 3) := by decide +kernel
theorem dX6_next_125 : decode cX6_next 125 = .ok (.putfield 254, 3) := by decide +kernel
theorem dX6_next_128 : decode cX6_next 128 = .ok (.iload_n 1, 1) := by decide +kernel
theorem dX6_next_129 : decode cX6_next 129 = .ok (.ifCond .le 8, 3) := by decide +kernel
theorem dX6_next_132 : decode cX6_next 132 = .ok (.aload_n 0, 1) := by decide +kernel
theorem dX6_next_133 : decode cX6_next 133 = .ok (.iload_n 1, 1) := by decide +kernel
theorem dX6_next_134 : decode cX6_next 134 = .ok (.invokevirtual 260, 3) := by decide +kernel
theorem dX6_next_137 : decode cX6_next 137 = .ok (.iload_n 1, 1) := by decide +kernel
theorem dX6_next_138 : decode cX6_next 138 = .ok (.ireturn, 1) := by decide +kernel
theorem dX6_whole_0 : decode cX6_whole 0 = .ok (.aload_n 0, 1) := by decide +kernel
theorem dX6_whole_1 : decode cX6_whole 1 = .ok (.iconst 0, 1) := by decide +kernel
theorem dX6_whole_2 : decode cX6_whole 2 = .ok (.putfield 43, 3) := by decide +kernel
theorem dX6_whole_5 : decode cX6_whole 5 = .ok (.aload_n 0, 1) := by decide +kernel
theorem dX6_whole_6 : decode cX6_whole 6 = .ok (.getfield 236, 3) := by decide +kernel
theorem dX6_whole_9 : decode cX6_whole 9 = .ok (.lreturn, 1) := by decide +kernel
theorem dX6_real_0 : decode cX6_real 0 = .ok (.aload_n 0, 1) := by decide +kernel
theorem dX6_real_1 : decode cX6_real 1 = .ok (.iconst 0, 1) := by decide +kernel
theorem dX6_real_2 : decode cX6_real 2 = .ok (.putfield 43, 3) := by decide +kernel
theorem dX6_real_5 : decode cX6_real 5 = .ok (.aload_n 0, 1) := by decide +kernel
theorem dX6_real_6 : decode cX6_real 6 = .ok (.getfield 239, 3) := by decide +kernel
theorem dX6_real_9 : decode cX6_real 9 = .ok (.dreturn, 1) := by decide +kernel
theorem dX6_sign_0 : decode cX6_sign 0 = .ok (.aload_n 0, 1) := by decide +kernel
theorem dX6_sign_1 : decode cX6_sign 1 = .ok (.iconst 0, 1) := by decide +kernel
theorem dX6_sign_2 : decode cX6_sign 2 = .ok (.putfield 43, 3) := by decide +kernel
theorem dX6_sign_5 : decode cX6_sign 5 = .ok (.iload_n 1, 1) := by decide +kernel
theorem dX6_sign_6 : decode cX6_sign 6 = .ok (.ifCond .lt 24, 3) := by decide +kernel
theorem dX6_sign_9 : decode cX6_sign 9 = .ok (.iload_n 1, 1) := by decide +kernel
theorem dX6_sign_10 : decode cX6_sign 10 = .ok (.aload_n 0, 1) := by decide +kernel
theorem dX6_sign_11 : decode cX6_sign 11 = .ok (.getfield 242, 3) := by decide +kernel
theorem dX6_sign_14 : decode cX6_sign 14 = .ok (.if_icmp .ge 16, 3) := by decide +kernel
theorem dX6_sign_17 : decode cX6_sign 17 = .ok (.aload_n 0, 1) := by decide +kernel
theorem dX6_sign_18 : decode cX6_sign 18 = .ok (.getfield 21, 3) := by decide +kernel
theorem dX6_sign_21 : decode cX6_sign 21 = .ok (.iload_n 1, 1) := by decide +kernel
theorem dX6_sign_22 : decode cX6_sign 22 = .ok (.baload, 1) := by decide +kernel
theorem dX6_sign_23 : decode cX6_sign 23 = .ok (.sipush 255, 3) := by decide +kernel
theorem dX6_sign_26 : decode cX6_sign 26 = .ok (.iand, 1) := by decide +kernel
theorem dX6_sign_27 : decode cX6_sign 27 = .ok (.goto 4, 3) := by decide +kernel
theorem dX6_sign_30 : decode cX6_sign 30 = .ok (.iconst (-1), 1) := by decide +kernel
theorem dX6_sign_31 : decode cX6_sign 31 = .ok (.ireturn, 1) := by decide +kernel
theorem dX6_binary_0 : decode cX6_binary 0 = .ok (.aload_n 0, 1) := by decide +kernel
theorem dX6_binary_1 : decode cX6_binary 1 = .ok (.iload_n 1, 1) := by decide +kernel
theorem dX6_binary_2 : decode cX6_binary 2 = .ok (.ifCond .lt 24, 3) := by decide +kernel
theorem dX6_binary_5 : decode cX6_binary 5 = .ok (.iload_n 1, 1) := by decide +kernel
theorem dX6_binary_6 : decode cX6_binary 6 = .ok (.aload_n 0, 1) := by decide +kernel
theorem dX6_binary_7 : decode cX6_binary 7 = .ok (.getfield 245, 3) := by decide +kernel
theorem dX6_binary_10 : decode cX6_binary 10 = .ok (.if_icmp .ge 16, 3) := by decide +kernel
theorem dX6_binary_13 : decode cX6_binary 13 = .ok (.iload_n 2, 1) := by decide +kernel
theorem dX6_binary_14 : decode cX6_binary 14 = .ok (.ifCond .eq 8, 3) := by decide +kernel
theorem dX6_binary_17 : decode cX6_binary 17 = .ok (.iload_n 2, 1) := by decide +kernel
theorem dX6_binary_18 : decode cX6_binary 18 = .ok (.iconst 1, 1) := by decide +kernel
theorem dX6_binary_19 : decode cX6_binary 19 = .ok (.if_icmp .ne 7, 3) := by decide +kernel
theorem dX6_binary_22 : decode cX6_binary 22 = .ok (.iconst 0, 1) := by decide +kernel
theorem dX6_binary_23 : decode cX6_binary 23 = .ok (.goto 4, 3) := by decide +kernel
theorem dX6_binary_26 : decode cX6_binary 26 = .ok (.iconst 1, 1) := by decide +kernel
theorem dX6_binary_27 : decode cX6_binary 27 = .ok (.putfield 43, 3) := by decide +kernel
theorem dX6_binary_30 : decode cX6_binary 30 = .ok (.aload_n 0, 1) := by decide +kernel
theorem dX6_binary_31 : decode cX6_binary 31 = .ok (.getfield 43, 3) := by decide +kernel
theorem dX6_binary_34 : decode cX6_binary 34 = .ok (.ifCond .le 5, 3) := by decide +kernel
theorem dX6_binary_37 : decode cX6_binary 37 = .ok (.iconst 0, 1) := by decide +kernel
theorem dX6_binary_38 : decode cX6_binary 38 = .ok (.ireturn, 1) := by decide +kernel
theorem dX6_binary_39 : decode cX6_binary 39 = .ok (.iload_n 2, 1) := by decide +kernel
theorem dX6_binary_40 : decode cX6_binary 40 = .ok (.ifCond .ne 18, 3) := by decide +kernel
theorem dX6_binary_43 : decode cX6_binary 43 = .ok (.aload_n 0, 1) := by decide +kernel
theorem dX6_binary_44 : decode cX6_binary 44 = .ok (.getfield 248, 3) := by decide +kernel
theorem dX6_binary_47 : decode cX6_binary 47 = .ok (.ifCond .eq 7, 3) := by decide +kernel
theorem dX6_binary_50 : decode cX6_binary 50 = .ok (.iconst 1, 1) := by decide +kernel
theorem dX6_binary_51 : decode cX6_binary 51 = .ok (.goto 24, 3) := by decide +kernel
theorem dX6_binary_54 : decode cX6_binary 54 = .ok (.iconst 0, 1) := by decide +kernel
theorem dX6_binary_55 : decode cX6_binary 55 = .ok (.goto 20, 3) := by decide +kernel
theorem dX6_binary_58 : decode cX6_binary 58 = .ok (.aload_n 0, 1) := by decide +kernel
theorem dX6_binary_59 : decode cX6_binary 59 = .ok (.getfield 248, 3) := by decide +kernel
theorem dX6_binary_62 : decode cX6_binary 62 = .ok (.ifCond .eq 7, 3) := by decide +kernel
theorem dX6_binary_65 : decode cX6_binary 65 = .ok (.iconst 0, 1) := by decide +kernel
theorem dX6_binary_66 : decode cX6_binary 66 = .ok (.goto 9, 3) := by decide +kernel
theorem dX6_binary_69 : decode cX6_binary 69 = .ok (.aload_n 0, 1) := by decide +kernel
theorem dX6_binary_70 : decode cX6_binary 70 = .ok (.getfield 24, 3) := by decide +kernel
theorem dX6_binary_73 : decode cX6_binary 73 = .ok (.iload_n 1, 1) := by decide +kernel
theorem dX6_binary_74 : decode cX6_binary 74 = .ok (.iaload, 1) := by decide +kernel
theorem dX6_binary_75 : decode cX6_binary 75 = .ok (.ireturn, 1) := by decide +kernel
theorem dX6_binaryReal_0 : decode cX6_binaryReal 0 = .ok (.aload_n 0, 1) := by decide +kernel
theorem dX6_binaryReal_1 : decode cX6_binaryReal 1 = .ok (.iload_n 1, 1) := by decide +kernel
theorem dX6_binaryReal_2 : decode cX6_binaryReal 2 = .ok (.ifCond .lt 15, 3) := by decide +kernel
theorem dX6_binaryReal_5 : decode cX6_binaryReal 5 = .ok (.iload_n 1, 1) := by decide +kernel
theorem dX6_binaryReal_6 : decode cX6_binaryReal 6 = .ok (.aload_n 0, 1) := by decide +kernel
theorem dX6_binaryReal_7 : decode cX6_binaryReal 7 = .ok (.getfield 245, 3) := by decide +kernel
theorem dX6_binaryReal_10 : decode cX6_binaryReal 10 = .ok (.if_icmp .ge 7, 3) := by decide +kernel
theorem dX6_binaryReal_13 : decode cX6_binaryReal 13 = .ok (.iconst 0, 1) := by decide +kernel
theorem dX6_binaryReal_14 : decode cX6_binaryReal 14 = .ok (.goto 4, 3) := by decide +kernel
theorem dX6_binaryReal_17 : decode cX6_binaryReal 17 = .ok (.iconst 1, 1) := by decide +kernel
theorem dX6_binaryReal_18 : decode cX6_binaryReal 18 = .ok (.putfield 43, 3) := by decide +kernel
theorem dX6_binaryReal_21 : decode cX6_binaryReal 21 = .ok (.aload_n 0, 1) := by decide +kernel
theorem dX6_binaryReal_22 : decode cX6_binaryReal 22 = .ok (.getfield 43, 3) := by decide +kernel
theorem dX6_binaryReal_25 : decode cX6_binaryReal 25 = .ok (.ifCond .ne 19, 3) := by decide +kernel
theorem dX6_binaryReal_28 : decode cX6_binaryReal 28 = .ok (.aload_n 0, 1) := by decide +kernel
theorem dX6_binaryReal_29 : decode cX6_binaryReal 29 = .ok (.getfield 248, 3) := by decide +kernel
theorem dX6_binaryReal_32 : decode cX6_binaryReal 32 = .ok (.ifCond .eq 12, 3) := by decide +kernel
theorem dX6_binaryReal_35 : decode cX6_binaryReal 35 = .ok (.aload_n 0, 1) := by decide +kernel
theorem dX6_binaryReal_36 : decode cX6_binaryReal 36 = .ok (.getfield 27, 3) := by decide +kernel
theorem dX6_binaryReal_39 : decode cX6_binaryReal 39 = .ok (.iload_n 1, 1) := by decide +kernel
theorem dX6_binaryReal_40 : decode cX6_binaryReal 40 = .ok (.daload, 1) := by decide +kernel
theorem dX6_binaryReal_41 : decode cX6_binaryReal 41 = .ok (.goto 4, 3) := by decide +kernel
theorem dX6_binaryReal_44 : decode cX6_binaryReal 44 = .ok (.dconst 0, 1) := by decide +kernel
theorem dX6_binaryReal_45 : decode cX6_binaryReal 45 = .ok (.dreturn, 1) := by decide +kernel
theorem dX6_place_0 : decode cX6_place 0 = .ok (.aload_n 0, 1) := by decide +kernel
theorem dX6_place_1 : decode cX6_place 1 = .ok (.iconst 0, 1) := by decide +kernel
theorem dX6_place_2 : decode cX6_place 2 = .ok (.putfield 43, 3) := by decide +kernel
theorem dX6_place_5 : decode cX6_place 5 = .ok (.aload_n 0, 1) := by decide +kernel
theorem dX6_place_6 : decode cX6_place 6 = .ok (.getfield 254, 3) := by decide +kernel
theorem dX6_place_9 : decode cX6_place 9 = .ok (.ireturn, 1) := by decide +kernel
theorem dX6_base_0 : decode cX6_base 0 = .ok (.aload_n 0, 1) := by decide +kernel
theorem dX6_base_1 : decode cX6_base 1 = .ok (.iconst 0, 1) := by decide +kernel
theorem dX6_base_2 : decode cX6_base 2 = .ok (.putfield 43, 3) := by decide +kernel
theorem dX6_base_5 : decode cX6_base 5 = .ok (.aload_n 0, 1) := by decide +kernel
theorem dX6_base_6 : decode cX6_base 6 = .ok (.getfield 17, 3) := by decide +kernel
theorem dX6_base_9 : decode cX6_base 9 = .ok (.ireturn, 1) := by decide +kernel
theorem dX6_depth_0 : decode cX6_depth 0 = .ok (.aload_n 0, 1) := by decide +kernel
theorem dX6_depth_1 : decode cX6_depth 1 = .ok (.iconst 0, 1) := by decide +kernel
theorem dX6_depth_2 : decode cX6_depth 2 = .ok (.putfield 43, 3) := by decide +kernel
theorem dX6_depth_5 : decode cX6_depth 5 = .ok (.aload_n 0, 1) := by decide +kernel
theorem dX6_depth_6 : decode cX6_depth 6 = .ok (.getfield 212, 3) := by decide +kernel
theorem dX6_depth_9 : decode cX6_depth 9 = .ok (.ireturn, 1) := by decide +kernel
theorem dX6_octet_0 : decode cX6_octet 0 = .ok (.aload_n 0, 1) := by decide +kernel
theorem dX6_octet_1 : decode cX6_octet 1 = .ok (.iload_n 1, 1) := by decide +kernel
theorem dX6_octet_2 : decode cX6_octet 2 = .ok (.ifCond .lt 15, 3) := by decide +kernel
theorem dX6_octet_5 : decode cX6_octet 5 = .ok (.iload_n 1, 1) := by decide +kernel
theorem dX6_octet_6 : decode cX6_octet 6 = .ok (.aload_n 0, 1) := by decide +kernel
theorem dX6_octet_7 : decode cX6_octet 7 = .ok (.getfield 40, 3) := by decide +kernel
theorem dX6_octet_10 : decode cX6_octet 10 = .ok (.if_icmp .ge 7, 3) := by decide +kernel
theorem dX6_octet_13 : decode cX6_octet 13 = .ok (.iconst 0, 1) := by decide +kernel
theorem dX6_octet_14 : decode cX6_octet 14 = .ok (.goto 4, 3) := by decide +kernel
theorem dX6_octet_17 : decode cX6_octet 17 = .ok (.iconst 1, 1) := by decide +kernel
theorem dX6_octet_18 : decode cX6_octet 18 = .ok (.putfield 43, 3) := by decide +kernel
theorem dX6_octet_21 : decode cX6_octet 21 = .ok (.aload_n 0, 1) := by decide +kernel
theorem dX6_octet_22 : decode cX6_octet 22 = .ok (.getfield 43, 3) := by decide +kernel
theorem dX6_octet_25 : decode cX6_octet 25 = .ok (.ifCond .le 7, 3) := by decide +kernel
theorem dX6_octet_28 : decode cX6_octet 28 = .ok (.iconst 0, 1) := by decide +kernel
theorem dX6_octet_29 : decode cX6_octet 29 = .ok (.goto 9, 3) := by decide +kernel
theorem dX6_octet_32 : decode cX6_octet 32 = .ok (.aload_n 0, 1) := by decide +kernel
theorem dX6_octet_33 : decode cX6_octet 33 = .ok (.getfield 7, 3) := by decide +kernel
theorem dX6_octet_36 : decode cX6_octet 36 = .ok (.iload_n 1, 1) := by decide +kernel
theorem dX6_octet_37 : decode cX6_octet 37 = .ok (.baload, 1) := by decide +kernel
theorem dX6_octet_38 : decode cX6_octet 38 = .ok (.ireturn, 1) := by decide +kernel
theorem dX6_clear_0 : decode cX6_clear 0 = .ok (.aload_n 0, 1) := by decide +kernel
theorem dX6_clear_1 : decode cX6_clear 1 = .ok (.iconst 0, 1) := by decide +kernel
theorem dX6_clear_2 : decode cX6_clear 2 = .ok (.putfield 43, 3) := by decide +kernel
theorem dX6_clear_5 : decode cX6_clear 5 = .ok (.aload_n 0, 1) := by decide +kernel
theorem dX6_clear_6 : decode cX6_clear 6 = .ok (.iconst 0, 1) := by decide +kernel
theorem dX6_clear_7 : decode cX6_clear 7 = .ok (.putfield 40, 3) := by decide +kernel
theorem dX6_clear_10 : decode cX6_clear 10 = .ok (.aload_n 0, 1) := by decide +kernel
theorem dX6_clear_11 : decode cX6_clear 11 = .ok (.iconst 0, 1) := by decide +kernel
theorem dX6_clear_12 : decode cX6_clear 12 = .ok (.putfield 53, 3) := by decide +kernel
theorem dX6_clear_15 : decode cX6_clear 15 = .ok (.aload_n 0, 1) := by decide +kernel
theorem dX6_clear_16 : decode cX6_clear 16 = .ok (.iconst 0, 1) := by decide +kernel
theorem dX6_clear_17 : decode cX6_clear 17 = .ok (.putfield 57, 3) := by decide +kernel
theorem dX6_clear_20 : decode cX6_clear 20 = .ok (.aload_n 0, 1) := by decide +kernel
theorem dX6_clear_21 : decode cX6_clear 21 = .ok (.iconst 0, 1) := by decide +kernel
theorem dX6_clear_22 : decode cX6_clear 22 = .ok (.putfield 212, 3) := by decide +kernel
theorem dX6_clear_25 : decode cX6_clear 25 = .ok (.aload_n 0, 1) := by decide +kernel
theorem dX6_clear_26 : decode cX6_clear 26 = .ok (.iconst 0, 1) := by decide +kernel
theorem dX6_clear_27 : decode cX6_clear 27 = .ok (.putfield 233, 3) := by decide +kernel
theorem dX6_clear_30 : decode cX6_clear 30 = .ok (.aload_n 0, 1) := by decide +kernel
theorem dX6_clear_31 : decode cX6_clear 31 = .ok (.lconst 0, 1) := by decide +kernel
theorem dX6_clear_32 : decode cX6_clear 32 = .ok (.putfield 236, 3) := by decide +kernel
theorem dX6_clear_35 : decode cX6_clear 35 = .ok (.aload_n 0, 1) := by decide +kernel
theorem dX6_clear_36 : decode cX6_clear 36 = .ok (.dconst 0, 1) := by decide +kernel
theorem dX6_clear_37 : decode cX6_clear 37 = .ok (.putfield 239, 3) := by decide +kernel
theorem dX6_clear_40 : decode cX6_clear 40 = .ok (.aload_n 0, 1) := by decide +kernel
theorem dX6_clear_41 : decode cX6_clear 41 = .ok (.iconst 0, 1) := by decide +kernel
theorem dX6_clear_42 : decode cX6_clear 42 = .ok (.putfield 254, 3) := by decide +kernel
theorem dX6_clear_45 : decode cX6_clear 45 = .ok (.aload_n 0, 1) := by decide +kernel
theorem dX6_clear_46 : decode cX6_clear 46 = .ok (.bipush 10, 2) := by decide +kernel
theorem dX6_clear_48 : decode cX6_clear 48 = .ok (.putfield 17, 3) := by decide +kernel
theorem dX6_clear_51 : decode cX6_clear 51 = .ok (.aload_n 0, 1) := by decide +kernel
theorem dX6_clear_52 : decode cX6_clear 52 = .ok (.iconst 0, 1) := by decide +kernel
theorem dX6_clear_53 : decode cX6_clear 53 = .ok (.putfield 242, 3) := by decide +kernel
theorem dX6_clear_56 : decode cX6_clear 56 = .ok (.aload_n 0, 1) := by decide +kernel
theorem dX6_clear_57 : decode cX6_clear 57 = .ok (.iconst 0, 1) := by decide +kernel
theorem dX6_clear_58 : decode cX6_clear 58 = .ok (.putfield 245, 3) := by decide +kernel
theorem dX6_clear_61 : decode cX6_clear 61 = .ok (.return_, 1) := by decide +kernel
end
section
/-! THE S-LAYER. Numbers: an int is iI z of an Int z, a long lI z; a byte row holds fB B (B : Nat -> Nat, the bytes 0 .. 255), an int row fI P. A context K folds program, launch, frame, heap bound and goal; SW K G nL nc ns pc lv st ws: from every heap that holds the cells ws, with locals lv and stack st at pc, the machine comes to K's goal. -/
def iI (z : Int) : Int32 := Int32.ofInt z
def lI (z : Int) : Int64 := Int64.ofInt z
abbrev R32 (z : Int) : Prop := -2147483648 ≤ z ∧ z < 2147483648
abbrev R64 (z : Int) : Prop := -9223372036854775808 ≤ z ∧ z < 9223372036854775808
theorem iI_add (a b : Int) : iI a + iI b = iI (a + b) := (Int32.ofInt_add a b).symm
theorem iI_sub (a b : Int) : iI a - iI b = iI (a - b) := (Int32.ofInt_sub a b).symm
theorem iI_mul (a b : Int) : iI a * iI b = iI (a * b) := (Int32.ofInt_mul a b).symm
theorem iI_neg (a : Int) : -iI a = iI (-a) := (Int32.ofInt_neg a).symm
theorem lI_add (a b : Int) : lI a + lI b = lI (a + b) := (Int64.ofInt_add a b).symm
theorem lI_sub (a b : Int) : lI a - lI b = lI (a - b) := (Int64.ofInt_sub a b).symm
theorem lI_mul (a b : Int) : lI a * lI b = lI (a * b) := (Int64.ofInt_mul a b).symm
theorem lI_neg (a : Int) : -lI a = lI (-a) := (Int64.ofInt_neg a).symm
theorem iI_toInt {z : Int} (h : R32 z) : (iI z).toInt = z := Int32.toInt_ofInt_of_le (by omega) (by omega)
theorem lI_toInt {z : Int} (h : R64 z) : (lI z).toInt = z := Int64.toInt_ofInt_of_le (by omega) (by omega)
theorem iI_of (x : Int32) : iI x.toInt = x := Int32.ofInt_toInt x
theorem iI_R (x : Int32) : R32 x.toInt := ⟨Int32.le_toInt x, Int32.toInt_lt x⟩
theorem iI_ex (x : Int32) : ∃ z : Int, R32 z ∧ x = iI z := ⟨x.toInt, iI_R x, (iI_of x).symm⟩
theorem iI_le {a b : Int} (ha : R32 a) (hb : R32 b) : iI a ≤ iI b ↔ a ≤ b := by rw [Int32.le_iff_toInt_le, iI_toInt ha, iI_toInt hb]
theorem iI_lt {a b : Int} (ha : R32 a) (hb : R32 b) : iI a < iI b ↔ a < b := by rw [Int32.lt_iff_toInt_lt, iI_toInt ha, iI_toInt hb]
theorem iI_eq {a b : Int} (ha : R32 a) (hb : R32 b) : iI a = iI b ↔ a = b := ⟨fun h => by have h := congrArg Int32.toInt h; rwa [iI_toInt ha, iI_toInt hb] at h, fun h => by rw [h]⟩
theorem lI_le {a b : Int} (ha : R64 a) (hb : R64 b) : lI a ≤ lI b ↔ a ≤ b := by rw [Int64.le_iff_toInt_le, lI_toInt ha, lI_toInt hb]
theorem lI_lt {a b : Int} (ha : R64 a) (hb : R64 b) : lI a < lI b ↔ a < b := by rw [Int64.lt_iff_toInt_lt, lI_toInt ha, lI_toInt hb]
theorem lI_eq {a b : Int} (ha : R64 a) (hb : R64 b) : lI a = lI b ↔ a = b := ⟨fun h => by have h := congrArg Int64.toInt h; rwa [lI_toInt ha, lI_toInt hb] at h, fun h => by rw [h]⟩
theorem iI_0 : iI 0 = 0 := rfl
theorem lI_0 : lI 0 = 0 := rfl
theorem iI_cl {z : Int} (h : R32 z) : (iI z).toNatClampNeg = z.toNat := by
  rw [Int32.toNatClampNeg, iI_toInt h]
theorem iI_in {z : Int} {n : Nat} (h0 : 0 ≤ z) (h : z < n) (hn : n < 2147483648) : vp_in (iI z) n := by
  have h1 : R32 z := ⟨by omega, by omega⟩
  rw [vp_in_iff, iI_toInt h1]
  exact ⟨h0, h⟩
theorem iI_l {z : Int} (h : R32 z) : (iI z).toInt64 = lI z := Int32.toInt64_ofInt h.1 (by have := h.2; show z ≤ 2147483647; omega)
theorem lI_i (z : Int) : (lI z).toInt32 = iI z := Int64.toInt32_ofInt
/-- a byte as a byte row holds it -/
def sb (n : Nat) : Int32 := (nI n).toInt8.toInt32
def fB (B : Nat → Nat) : Nat → Int32 := fun j => sb (B j)
def fI (P : Nat → Int) : Nat → Int32 := fun j => iI (P j)
def uB (B : Nat → Nat) (k v : Nat) : Nat → Nat := fun j => if j = k then v else B j
def uI (P : Nat → Int) (k : Nat) (v : Int) : Nat → Int := fun j => if j = k then v else P j
def uD (P : Nat → UInt64) (k : Nat) (v : UInt64) : Nat → UInt64 := fun j => if j = k then v else P j
def by8 (z : Int) : Nat := (z % 256).toNat
theorem by8_lt (z : Int) : by8 z < 256 := by unfold by8; omega
theorem by8_of {z : Int} (h : 0 ≤ z) (h1 : z < 256) : ((by8 z : Nat) : Int) = z := by unfold by8; omega
theorem sb_of (z : Int) : (iI z).toInt8.toInt32 = sb (by8 z) := by
  have h2 : (iI z).toInt8 = (nI (by8 z)).toInt8 := by
    show (Int32.ofInt z).toInt8 = (Int32.ofNat (by8 z)).toInt8
    rw [Int32.toInt8_ofInt, Int32.toInt8_ofNat']
    apply Int8.toInt_inj.mp
    rw [Int8.toInt_ofInt, Int8.toInt_ofNat']
    unfold by8
    rw [Int.toNat_of_nonneg (by omega)]
    exact (Int.emod_bmod z 256).symm
  rw [h2]; rfl
theorem sb_sb (n : Nat) : (sb n).toInt8.toInt32 = sb n := by unfold sb; simp
theorem sb_nar (n : Nat) : vp_nar .byte (sb n) = sb n := by rw [vp_nar_byte, sb_sb]
theorem sb_and {n : Nat} (h : n < 256) : sb n &&& 255 = iI n := (sc_k8 n h).trans (Int32.ofInt_eq_ofNat).symm
theorem sb_z : sb 0 = 0 := rfl
theorem fB_up (B : Nat → Nat) (k v : Nat) : upd (fB B) k (sb v) = fB (uB B k v) := by
  funext j; unfold upd fB uB; by_cases h : j = k <;> simp [h]
theorem fI_up (P : Nat → Int) (k : Nat) (v : Int) : upd (fI P) k (iI v) = fI (uI P k v) := by
  funext j; unfold upd fI uI; by_cases h : j = k <;> simp [h]
/-- a truth as an int -/
def tf (c : Prop) [Decidable c] : Int := if c then 1 else 0
theorem tf_R (c : Prop) [Decidable c] : R32 (tf c) := by unfold tf; split <;> decide
theorem tf_t {c : Prop} [Decidable c] (h : c) : tf c = 1 := if_pos h
theorem tf_f {c : Prop} [Decidable c] (h : ¬ c) : tf c = 0 := if_neg h
theorem tf_0 {c : Prop} [Decidable c] : tf c = 0 ↔ ¬ c := by unfold tf; split <;> simp_all
theorem tf_c {c d : Prop} [Decidable c] [Decidable d] (h : c ↔ d) : tf c = tf d := by unfold tf; simp [h]
theorem tf_nar (c : Prop) [Decidable c] : narrow .boolean (.int (iI (tf c))) = .int (iI (tf c)) := by unfold tf; split <;> rfl
theorem tf_fit (c : Prop) [Decidable c] : fits .boolean (.int (iI (tf c))) = true := by unfold tf; split <;> rfl
/-- the arrays' kinds: byte, int, double, long -/
abbrev GX : Type := (Nat → ClassId) × (Nat → Nat → Nat) × ClassId × ClassId × ClassId × ClassId
abbrev gD (G : GX) : va_G := (G.1, G.2.1)
abbrev gB (G : GX) : ClassId := G.2.2.1
abbrev gI (G : GX) : ClassId := G.2.2.2.1
abbrev gF (G : GX) : ClassId := G.2.2.2.2.1
abbrev gJ (G : GX) : ClassId := G.2.2.2.2.2
abbrev gT (G : GX) : List (ClassId × FieldType) := [(gB G, .byte), (gI G, .int), (gF G, .double), (gJ G, .long)]
/-- a word of the tables, good to be carried to any state -/
def TG (w : Cond) : Prop := w ∈ lw_tbl ∧ goodWord w = true
/-- the six links over the nest, in the form that travels -/
def nests : List (String × Nat × MethodName × String) := [(RX5, 9, yX1_init, "TokenReader"), (RX5, 45, yX3_init, "TokenReader"), (RX0, 120, yX5_scaled, "TokenReader"), (RX2, 67, yX5_digitOf, "TokenReader"), (RX4, 105, yX5_scaled, "TokenReader"), (RX4, 115, yX5_digitOf, "TokenReader")]
def TB (U : State) : Prop := (∀ w, TG w → ∀ a, w.before a U = true) ∧ ∀ q ∈ nests, va_Nw (.methodLinkNest q.1 q.2.1 q.2.2.1 q.2.2.2) U
theorem TB.moved {s U : State} (hW : s.WarmedH U.vm) (h : TB s) : TB U := ⟨fun w hw a => word_at hW (good_of_word hw.2) (h.1 w hw #[]), fun q hq => va_Nw.warmM hW (h.2 q hq)⟩
theorem TB.same {s U : State} (hv : s.vm = U.vm) (h : TB s) : TB U := ⟨fun w hw a => by
  rcases good_of_word hw.2 with h1 | ⟨ty, rfl⟩
  · exact va_tabs (Bool.and_eq_true _ _ ▸ h1 : _ ∧ _).1 hv (h.1 w hw #[])
  · exact h.1 _ hw a |> fun h2 => by
      have := h2
      simpa [Cond.before, Cond.holds, Cond.value, hv] using this, fun q hq => va_Nw.same rfl hv (h.2 q hq)⟩
def GK (G : GX) (U : State) : Prop := va_K (gD G) vwCl (gT G) U ∧ TB U
theorem GK.moved {G : GX} {s U : State} (hW : s.WarmedH U.vm) (h : GK G s) : GK G U := ⟨va_K.moved hW.alike h.1, h.2.moved hW⟩
theorem GK.same {G : GX} {s U : State} (hv : s.vm = U.vm) (h : GK G s) : GK G U := ⟨va_K.moved (by rw [hv]; exact Vm.Alike.refl _) h.1, h.2.same hv⟩
/-- the context -/
abbrev KX : Type := Program × Launch × Env × Room × State × MethodId × Array Value × List Frame × Method × Code × (Nat → Prop) × Heap × (State → Prop)
abbrev kp (K : KX) : Program := K.1
abbrev kl (K : KX) : Launch := K.2.1
abbrev ke (K : KX) : Env := K.2.2.1
abbrev kR (K : KX) : Room := K.2.2.2.1
abbrev ks (K : KX) : State := K.2.2.2.2.1
abbrev km (K : KX) : MethodId := K.2.2.2.2.2.1
abbrev ka (K : KX) : Array Value := K.2.2.2.2.2.2.1
abbrev kb (K : KX) : List Frame := K.2.2.2.2.2.2.2.1
abbrev kme (K : KX) : Method := K.2.2.2.2.2.2.2.2.1
abbrev kc (K : KX) : Code := K.2.2.2.2.2.2.2.2.2.1
abbrev kA (K : KX) : Nat → Prop := K.2.2.2.2.2.2.2.2.2.2.1
abbrev kH (K : KX) : Heap := K.2.2.2.2.2.2.2.2.2.2.2.1
abbrev kQ (K : KX) : State → Prop := K.2.2.2.2.2.2.2.2.2.2.2.2
abbrev kW (K : KX) (H : Heap) (locs : List Loc) (nc ns : Nat) (g : JFrame) : Prop := W (kp K) (kl K) (ke K) (kR K) (ks K) (km K) (ka K) (kb K) (kme K) (kc K) H locs nc ns (kQ K) g
def SW (K : KX) (G : GX) (nL nc ns pc : Nat) (lv : List (Nat × Value)) (st : List Value) (ws : va_W) : Prop :=
  ∀ (H : Heap) (locs : List Loc) (ls : Array Slot), va_P (gD G) vwCl ws H → va_D (kA K) ws → va_S (kA K) (kH K) H locs → lv_has ls nL lv → kW K H locs nc ns (F0 (km K) pc ls st)
def SK (K : KX) (G : GX) (R0 : Room) (cc : ByteArray) (nL : Nat) (own : String) : Prop :=
  (kp K).tables.exec = Jvm.exec ∧ (kc K).code = cc ∧ (kc K).maxLocals = nL ∧ (ks K).vm.findClass own = some (km K).cls ∧ GK G (ks K) ∧ (∀ q, (kH K).size ≤ q → kA K q) ∧ kR K = R0
theorem SK.tb {K : KX} {G : GX} {R0 : Room} {cc : ByteArray} {nL : Nat} {own : String} (X : SK K G R0 cc nL own) {w : Cond} (h : TG w) (a : Array Value) : w.before a (ks K) = true := X.2.2.2.2.1.2.1 w h a
section SROWS
variable {K : KX} {G : GX} {R0 : Room} {cc : ByteArray} {nL nc ns pc : Nat} {own : String} {lv : List (Nat × Value)} {st : List Value} {ws : va_W}
/-- fewer locals, other order -/
theorem s_locs {lv' : List (Nat × Value)} (ks9 : List Nat) (h : lv_pick lv ks9 = lv') (k : SW K G nL nc ns pc lv' st ws) : SW K G nL nc ns pc lv st ws := fun H locs ls hP hD hS hl => k H locs ls hP hD hS (lv_sub hl ks9 h)
/-- the cells in another order, or fewer -/
theorem s_perm {ws' : va_W} (is : List Nat) (hn : va_nd is = true) (h : is.map (fun i => ws[i]?) = ws'.map some) (h2 : is.filterMap (fun i => ws[i]?) = ws') (k : SW K G nL nc ns pc lv st ws') : SW K G nL nc ns pc lv st ws := fun H locs ls hP hD hS hl => k H locs ls (hP.sub is h2) (hD.sub is hn h) hS hl
theorem s_cast {st' : List Value} {ws' : va_W} {lv' : List (Nat × Value)} (h1 : st = st') (h2 : ws = ws') (h3 : lv = lv') (k : SW K G nL nc ns pc lv' st' ws') : SW K G nL nc ns pc lv st ws := by subst h1; subst h2; subst h3; exact k
theorem s_pc {pc' : Nat} (h : pc = pc') (k : SW K G nL nc ns pc' lv st ws) : SW K G nL nc ns pc lv st ws := by subst h; exact k
theorem s_widen {nc' ns' : Nat} (h1 : nc ≤ nc') (h2 : ns ≤ ns') (k : SW K G nL nc' ns' pc lv st ws) : SW K G nL nc ns pc lv st ws := fun H locs ls hP hD hS hl => W.widen h1 h2 (k H locs ls hP hD hS hl)
theorem s_iconst {n : Int} (X : SK K G R0 cc nL own) (d : decode cc pc = .ok (.iconst n, 1)) (k : SW K G nL nc ns (pc + 1) lv (.int (iI n) :: st) ws) : SW K G nL nc ns pc lv st ws := by
  intro H locs ls hP hD hS hl
  refine lv_iconst X.1 X.2.1 d rfl ?_
  exact k H locs ls hP hD hS hl
theorem s_bipush {n : Int} (z : Int) (X : SK K G R0 cc nL own) (d : decode cc pc = .ok (.bipush n, 2)) (hz : (Int8.ofInt n).toInt32 = iI z) (k : SW K G nL nc ns (pc + 2) lv (.int (iI z) :: st) ws) : SW K G nL nc ns pc lv st ws := by
  intro H locs ls hP hD hS hl
  refine lv_bipush X.1 X.2.1 d hz ?_
  exact k H locs ls hP hD hS hl
theorem s_sipush {n : Int} (z : Int) (X : SK K G R0 cc nL own) (d : decode cc pc = .ok (.sipush n, 3)) (hz : (Int16.ofInt n).toInt32 = iI z) (k : SW K G nL nc ns (pc + 3) lv (.int (iI z) :: st) ws) : SW K G nL nc ns pc lv st ws := by
  intro H locs ls hP hD hS hl
  refine lv_sipush X.1 X.2.1 d hz ?_
  exact k H locs ls hP hD hS hl
theorem s_lconst0 (X : SK K G R0 cc nL own) (d : decode cc pc = .ok (.lconst 0, 1)) (k : SW K G nL nc ns (pc + 1) lv (.long (lI 0) :: st) ws) : SW K G nL nc ns pc lv st ws := by
  intro H locs ls hP hD hS hl
  refine lv_lconst (v := lI 0) X.1 X.2.1 d rfl ?_
  exact k H locs ls hP hD hS hl
theorem s_lconst1 (X : SK K G R0 cc nL own) (d : decode cc pc = .ok (.lconst 1, 1)) (k : SW K G nL nc ns (pc + 1) lv (.long (lI 1) :: st) ws) : SW K G nL nc ns pc lv st ws := by
  intro H locs ls hP hD hS hl
  refine lv_lconst (v := lI 1) X.1 X.2.1 d rfl ?_
  exact k H locs ls hP hD hS hl
theorem s_dconst0 (X : SK K G R0 cc nL own) (d : decode cc pc = .ok (.dconst 0, 1)) (k : SW K G nL nc ns (pc + 1) lv (.double FP.dconst0 :: st) ws) : SW K G nL nc ns pc lv st ws := by
  intro H locs ls hP hD hS hl
  refine lv_dconst0 X.1 X.2.1 d ?_
  exact k H locs ls hP hD hS hl
theorem s_dconst1 (X : SK K G R0 cc nL own) (d : decode cc pc = .ok (.dconst 1, 1)) (k : SW K G nL nc ns (pc + 1) lv (.double FP.dconst1 :: st) ws) : SW K G nL nc ns pc lv st ws := by
  intro H locs ls hP hD hS hl
  refine lv_dconst1 X.1 X.2.1 d ?_
  exact k H locs ls hP hD hS hl
theorem s_null (X : SK K G R0 cc nL own) (d : decode cc pc = .ok (.aconst_null, 1)) (k : SW K G nL nc ns (pc + 1) lv (.null :: st) ws) : SW K G nL nc ns pc lv st ws := by
  intro H locs ls hP hD hS hl
  refine lv_null X.1 X.2.1 d ?_
  exact k H locs ls hP hD hS hl
theorem s_ldc {i : Nat} {v : Int32} (z : Int) (X : SK K G R0 cc nL own) (d : decode cc pc = .ok (.ldc i, 2)) (w : TG (.constant own i v)) (hz : v = iI z) (k : SW K G nL nc ns (pc + 2) lv (.int (iI z) :: st) ws) : SW K G nL nc ns pc lv st ws := by
  intro H locs ls hP hD hS hl
  refine lv_ldc X.1 X.2.1 X.2.2.2.1 (X.tb w _) d ?_
  rw [hz]
  exact k H locs ls hP hD hS hl
theorem s_ldc2 {i : Nat} {v : Int64} (z : Int) (X : SK K G R0 cc nL own) (d : decode cc pc = .ok (.ldc2_w i, 3)) (w : TG (.constantLong own i v)) (hz : v = lI z) (k : SW K G nL nc ns (pc + 3) lv (.long (lI z) :: st) ws) : SW K G nL nc ns pc lv st ws := by
  intro H locs ls hP hD hS hl
  refine lv_ldc2 X.1 X.2.1 X.2.2.2.1 (X.tb w _) d ?_
  rw [hz]
  exact k H locs ls hP hD hS hl
theorem s_ldc2d {i : Nat} {v : UInt64} (X : SK K G R0 cc nL own) (d : decode cc pc = .ok (.ldc2_w i, 3)) (w : TG (.constantDouble own i v)) (k : SW K G nL nc ns (pc + 3) lv (.double v :: st) ws) : SW K G nL nc ns pc lv st ws := by
  intro H locs ls hP hD hS hl
  refine lv_ldc2d X.1 X.2.1 X.2.2.2.1 (X.tb w _) d ?_
  exact k H locs ls hP hD hS hl
theorem s_iload_n {k9 : Fin 4} {i : Nat} {x : Int32} (X : SK K G R0 cc nL own) (d : decode cc pc = .ok (.iload_n k9, 1)) (hi : (k9 : Nat) = i) (j : Nat) (hj : lv[j]? = some (i, .int x)) (k : SW K G nL nc ns (pc + 1) lv (.int x :: st) ws) : SW K G nL nc ns pc lv st ws := by
  intro H locs ls hP hD hS hl
  refine lv_iload_n X.1 X.2.1 d hi (lv_at hl j hj) ?_
  exact k H locs ls hP hD hS hl
theorem s_iload {i : Nat} {x : Int32} (X : SK K G R0 cc nL own) (d : decode cc pc = .ok (.iload i, 2)) (j : Nat) (hj : lv[j]? = some (i, .int x)) (k : SW K G nL nc ns (pc + 2) lv (.int x :: st) ws) : SW K G nL nc ns pc lv st ws := by
  intro H locs ls hP hD hS hl
  refine lv_iload X.1 X.2.1 d (lv_at hl j hj) ?_
  exact k H locs ls hP hD hS hl
theorem s_istore_n {k9 : Fin 4} {i : Nat} {x : Int32} (X : SK K G R0 cc nL own) (d : decode cc pc = .ok (.istore_n k9, 1)) (hi : (k9 : Nat) = i) (lv9 : List (Nat × Value)) (hn : i < nL) (hl9 : (i, Value.int x) :: lv.filter (fun q => !(q.1 == i) && !(q.1 + 1 == i && q.2.category == 2)) = lv9) (k : SW K G nL nc ns (pc + 1) lv9 st ws) : SW K G nL nc ns pc lv (.int x :: st) ws := by
  intro H locs ls hP hD hS hl
  exact lv_istore_n X.1 X.2.1 d hi hl hn hl9 (fun ls9 h9 => k H locs ls9 hP hD hS h9)
theorem s_istore {i : Nat} {x : Int32} (X : SK K G R0 cc nL own) (d : decode cc pc = .ok (.istore i, 2)) (lv9 : List (Nat × Value)) (hn : i < nL) (hl9 : (i, Value.int x) :: lv.filter (fun q => !(q.1 == i) && !(q.1 + 1 == i && q.2.category == 2)) = lv9) (k : SW K G nL nc ns (pc + 2) lv9 st ws) : SW K G nL nc ns pc lv (.int x :: st) ws := by
  intro H locs ls hP hD hS hl
  exact lv_istore X.1 X.2.1 d hl hn hl9 (fun ls9 h9 => k H locs ls9 hP hD hS h9)
theorem s_lload_n {k9 : Fin 4} {i : Nat} {x : Int64} (X : SK K G R0 cc nL own) (d : decode cc pc = .ok (.lload_n k9, 1)) (hi : (k9 : Nat) = i) (j : Nat) (hj : lv[j]? = some (i, .long x)) (k : SW K G nL nc ns (pc + 1) lv (.long x :: st) ws) : SW K G nL nc ns pc lv st ws := by
  intro H locs ls hP hD hS hl
  refine lv_lload_n X.1 X.2.1 d hi (lv_at hl j hj) ?_
  exact k H locs ls hP hD hS hl
theorem s_lload {i : Nat} {x : Int64} (X : SK K G R0 cc nL own) (d : decode cc pc = .ok (.lload i, 2)) (j : Nat) (hj : lv[j]? = some (i, .long x)) (k : SW K G nL nc ns (pc + 2) lv (.long x :: st) ws) : SW K G nL nc ns pc lv st ws := by
  intro H locs ls hP hD hS hl
  refine lv_lload X.1 X.2.1 d (lv_at hl j hj) ?_
  exact k H locs ls hP hD hS hl
theorem s_lstore_n {k9 : Fin 4} {i : Nat} {x : Int64} (X : SK K G R0 cc nL own) (d : decode cc pc = .ok (.lstore_n k9, 1)) (hi : (k9 : Nat) = i) (lv9 : List (Nat × Value)) (hn : i + 1 < nL) (hl9 : (i, Value.long x) :: lv.filter (fun q => !(q.1 == i) && (!(q.1 == i + 1) && !(q.1 + 1 == i && q.2.category == 2))) = lv9) (k : SW K G nL nc ns (pc + 1) lv9 st ws) : SW K G nL nc ns pc lv (.long x :: st) ws := by
  intro H locs ls hP hD hS hl
  exact lv_lstore_n X.1 X.2.1 d hi hl hn hl9 (fun ls9 h9 => k H locs ls9 hP hD hS h9)
theorem s_lstore {i : Nat} {x : Int64} (X : SK K G R0 cc nL own) (d : decode cc pc = .ok (.lstore i, 2)) (lv9 : List (Nat × Value)) (hn : i + 1 < nL) (hl9 : (i, Value.long x) :: lv.filter (fun q => !(q.1 == i) && (!(q.1 == i + 1) && !(q.1 + 1 == i && q.2.category == 2))) = lv9) (k : SW K G nL nc ns (pc + 2) lv9 st ws) : SW K G nL nc ns pc lv (.long x :: st) ws := by
  intro H locs ls hP hD hS hl
  exact lv_lstore X.1 X.2.1 d hl hn hl9 (fun ls9 h9 => k H locs ls9 hP hD hS h9)
theorem s_dload_n {k9 : Fin 4} {i : Nat} {x : UInt64} (X : SK K G R0 cc nL own) (d : decode cc pc = .ok (.dload_n k9, 1)) (hi : (k9 : Nat) = i) (j : Nat) (hj : lv[j]? = some (i, .double x)) (k : SW K G nL nc ns (pc + 1) lv (.double x :: st) ws) : SW K G nL nc ns pc lv st ws := by
  intro H locs ls hP hD hS hl
  refine lv_dload_n X.1 X.2.1 d hi (lv_at hl j hj) ?_
  exact k H locs ls hP hD hS hl
theorem s_dload {i : Nat} {x : UInt64} (X : SK K G R0 cc nL own) (d : decode cc pc = .ok (.dload i, 2)) (j : Nat) (hj : lv[j]? = some (i, .double x)) (k : SW K G nL nc ns (pc + 2) lv (.double x :: st) ws) : SW K G nL nc ns pc lv st ws := by
  intro H locs ls hP hD hS hl
  refine lv_dload X.1 X.2.1 d (lv_at hl j hj) ?_
  exact k H locs ls hP hD hS hl
theorem s_dstore_n {k9 : Fin 4} {i : Nat} {x : UInt64} (X : SK K G R0 cc nL own) (d : decode cc pc = .ok (.dstore_n k9, 1)) (hi : (k9 : Nat) = i) (lv9 : List (Nat × Value)) (hn : i + 1 < nL) (hl9 : (i, Value.double x) :: lv.filter (fun q => !(q.1 == i) && (!(q.1 == i + 1) && !(q.1 + 1 == i && q.2.category == 2))) = lv9) (k : SW K G nL nc ns (pc + 1) lv9 st ws) : SW K G nL nc ns pc lv (.double x :: st) ws := by
  intro H locs ls hP hD hS hl
  exact lv_dstore_n X.1 X.2.1 d hi hl hn hl9 (fun ls9 h9 => k H locs ls9 hP hD hS h9)
theorem s_dstore {i : Nat} {x : UInt64} (X : SK K G R0 cc nL own) (d : decode cc pc = .ok (.dstore i, 2)) (lv9 : List (Nat × Value)) (hn : i + 1 < nL) (hl9 : (i, Value.double x) :: lv.filter (fun q => !(q.1 == i) && (!(q.1 == i + 1) && !(q.1 + 1 == i && q.2.category == 2))) = lv9) (k : SW K G nL nc ns (pc + 2) lv9 st ws) : SW K G nL nc ns pc lv (.double x :: st) ws := by
  intro H locs ls hP hD hS hl
  exact lv_dstore X.1 X.2.1 d hl hn hl9 (fun ls9 h9 => k H locs ls9 hP hD hS h9)
theorem s_aload_n {k9 : Fin 4} {i : Nat} {x : Nat} (X : SK K G R0 cc nL own) (d : decode cc pc = .ok (.aload_n k9, 1)) (hi : (k9 : Nat) = i) (j : Nat) (hj : lv[j]? = some (i, .ref x)) (k : SW K G nL nc ns (pc + 1) lv (.ref x :: st) ws) : SW K G nL nc ns pc lv st ws := by
  intro H locs ls hP hD hS hl
  refine lv_aload_n X.1 X.2.1 d hi (lv_at hl j hj) ?_
  exact k H locs ls hP hD hS hl
theorem s_aload {i : Nat} {x : Nat} (X : SK K G R0 cc nL own) (d : decode cc pc = .ok (.aload i, 2)) (j : Nat) (hj : lv[j]? = some (i, .ref x)) (k : SW K G nL nc ns (pc + 2) lv (.ref x :: st) ws) : SW K G nL nc ns pc lv st ws := by
  intro H locs ls hP hD hS hl
  refine lv_aload X.1 X.2.1 d (lv_at hl j hj) ?_
  exact k H locs ls hP hD hS hl
theorem s_astore_n {k9 : Fin 4} {i : Nat} {x : Nat} (X : SK K G R0 cc nL own) (d : decode cc pc = .ok (.astore_n k9, 1)) (hi : (k9 : Nat) = i) (lv9 : List (Nat × Value)) (hn : i < nL) (hl9 : (i, Value.ref x) :: lv.filter (fun q => !(q.1 == i) && !(q.1 + 1 == i && q.2.category == 2)) = lv9) (k : SW K G nL nc ns (pc + 1) lv9 st ws) : SW K G nL nc ns pc lv (.ref x :: st) ws := by
  intro H locs ls hP hD hS hl
  exact lv_astore_n X.1 X.2.1 d hi hl hn hl9 (fun ls9 h9 => k H locs ls9 hP hD hS h9)
theorem s_astore {i : Nat} {x : Nat} (X : SK K G R0 cc nL own) (d : decode cc pc = .ok (.astore i, 2)) (lv9 : List (Nat × Value)) (hn : i < nL) (hl9 : (i, Value.ref x) :: lv.filter (fun q => !(q.1 == i) && !(q.1 + 1 == i && q.2.category == 2)) = lv9) (k : SW K G nL nc ns (pc + 2) lv9 st ws) : SW K G nL nc ns pc lv (.ref x :: st) ws := by
  intro H locs ls hP hD hS hl
  exact lv_astore X.1 X.2.1 d hl hn hl9 (fun ls9 h9 => k H locs ls9 hP hD hS h9)
theorem s_iinc {i : Nat} {n : Int} {x z : Int} (X : SK K G R0 cc nL own) (d : decode cc pc = .ok (.iinc i n, 3)) (j : Nat) (hj : lv[j]? = some (i, .int (iI x))) (hz : x + n = z) (lv9 : List (Nat × Value)) (hn : i < nL) (hl9 : (i, Value.int (iI z)) :: lv.filter (fun q => !(q.1 == i) && !(q.1 + 1 == i && q.2.category == 2)) = lv9) (k : SW K G nL nc ns (pc + 3) lv9 st ws) : SW K G nL nc ns pc lv st ws := by
  intro H locs ls hP hD hS hl
  exact lv_iinc X.1 X.2.1 d hl hj (by show iI x + iI n = iI z; rw [iI_add, hz]) hn hl9 (fun ls9 h9 => k H locs ls9 hP hD hS h9)
theorem s_iadd {a b : Int} (X : SK K G R0 cc nL own) (d : decode cc pc = .ok (.iadd, 1)) (k : SW K G nL nc ns (pc + 1) lv (.int (iI (a + b)) :: st) ws) : SW K G nL nc ns pc lv (.int (iI b) :: .int (iI a) :: st) ws := by
  intro H locs ls hP hD hS hl
  refine lv_iadd X.1 X.2.1 d ?_
  rw [iI_add]
  exact k H locs ls hP hD hS hl
theorem s_ladd {a b : Int} (X : SK K G R0 cc nL own) (d : decode cc pc = .ok (.ladd, 1)) (k : SW K G nL nc ns (pc + 1) lv (.long (lI (a + b)) :: st) ws) : SW K G nL nc ns pc lv (.long (lI b) :: .long (lI a) :: st) ws := by
  intro H locs ls hP hD hS hl
  refine lv_ladd X.1 X.2.1 d ?_
  rw [lI_add]
  exact k H locs ls hP hD hS hl
theorem s_isub {a b : Int} (X : SK K G R0 cc nL own) (d : decode cc pc = .ok (.isub, 1)) (k : SW K G nL nc ns (pc + 1) lv (.int (iI (a - b)) :: st) ws) : SW K G nL nc ns pc lv (.int (iI b) :: .int (iI a) :: st) ws := by
  intro H locs ls hP hD hS hl
  refine lv_isub X.1 X.2.1 d ?_
  rw [iI_sub]
  exact k H locs ls hP hD hS hl
theorem s_lsub {a b : Int} (X : SK K G R0 cc nL own) (d : decode cc pc = .ok (.lsub, 1)) (k : SW K G nL nc ns (pc + 1) lv (.long (lI (a - b)) :: st) ws) : SW K G nL nc ns pc lv (.long (lI b) :: .long (lI a) :: st) ws := by
  intro H locs ls hP hD hS hl
  refine lv_lsub X.1 X.2.1 d ?_
  rw [lI_sub]
  exact k H locs ls hP hD hS hl
theorem s_imul {a b : Int} (X : SK K G R0 cc nL own) (d : decode cc pc = .ok (.imul, 1)) (k : SW K G nL nc ns (pc + 1) lv (.int (iI (a * b)) :: st) ws) : SW K G nL nc ns pc lv (.int (iI b) :: .int (iI a) :: st) ws := by
  intro H locs ls hP hD hS hl
  refine lv_imul X.1 X.2.1 d ?_
  rw [iI_mul]
  exact k H locs ls hP hD hS hl
theorem s_lmul {a b : Int} (X : SK K G R0 cc nL own) (d : decode cc pc = .ok (.lmul, 1)) (k : SW K G nL nc ns (pc + 1) lv (.long (lI (a * b)) :: st) ws) : SW K G nL nc ns pc lv (.long (lI b) :: .long (lI a) :: st) ws := by
  intro H locs ls hP hD hS hl
  refine lv_lmul X.1 X.2.1 d ?_
  rw [lI_mul]
  exact k H locs ls hP hD hS hl
theorem s_ineg {a : Int} (X : SK K G R0 cc nL own) (d : decode cc pc = .ok (.ineg, 1)) (k : SW K G nL nc ns (pc + 1) lv (.int (iI (-a)) :: st) ws) : SW K G nL nc ns pc lv (.int (iI a) :: st) ws := by
  intro H locs ls hP hD hS hl
  refine lv_ineg X.1 X.2.1 d ?_
  rw [iI_neg]
  exact k H locs ls hP hD hS hl
theorem s_lneg {a : Int} (X : SK K G R0 cc nL own) (d : decode cc pc = .ok (.lneg, 1)) (k : SW K G nL nc ns (pc + 1) lv (.long (lI (-a)) :: st) ws) : SW K G nL nc ns pc lv (.long (lI a) :: st) ws := by
  intro H locs ls hP hD hS hl
  refine lv_lneg X.1 X.2.1 d ?_
  rw [lI_neg]
  exact k H locs ls hP hD hS hl
theorem s_iand {x y : Int32} {z : Int} (X : SK K G R0 cc nL own) (d : decode cc pc = .ok (.iand, 1)) (hz : x &&& y = iI z) (k : SW K G nL nc ns (pc + 1) lv (.int (iI z) :: st) ws) : SW K G nL nc ns pc lv (.int y :: .int x :: st) ws := by
  intro H locs ls hP hD hS hl
  refine lv_iand X.1 X.2.1 d ?_
  rw [hz]
  exact k H locs ls hP hD hS hl
theorem s_ior {x y : Int32} {z : Int} (X : SK K G R0 cc nL own) (d : decode cc pc = .ok (.ior, 1)) (hz : x ||| y = iI z) (k : SW K G nL nc ns (pc + 1) lv (.int (iI z) :: st) ws) : SW K G nL nc ns pc lv (.int y :: .int x :: st) ws := by
  intro H locs ls hP hD hS hl
  refine lv_ior X.1 X.2.1 d ?_
  rw [hz]
  exact k H locs ls hP hD hS hl
theorem s_ishl {x y : Int32} {z : Int} (X : SK K G R0 cc nL own) (d : decode cc pc = .ok (.ishl, 1)) (hz : x <<< (y &&& 31) = iI z) (k : SW K G nL nc ns (pc + 1) lv (.int (iI z) :: st) ws) : SW K G nL nc ns pc lv (.int y :: .int x :: st) ws := by
  intro H locs ls hP hD hS hl
  refine lv_ishl X.1 X.2.1 d ?_
  rw [hz]
  exact k H locs ls hP hD hS hl
theorem s_ishr {x y : Int32} {z : Int} (X : SK K G R0 cc nL own) (d : decode cc pc = .ok (.ishr, 1)) (hz : x >>> (y &&& 31) = iI z) (k : SW K G nL nc ns (pc + 1) lv (.int (iI z) :: st) ws) : SW K G nL nc ns pc lv (.int y :: .int x :: st) ws := by
  intro H locs ls hP hD hS hl
  refine lv_ishr X.1 X.2.1 d ?_
  rw [hz]
  exact k H locs ls hP hD hS hl
theorem s_iushr {x y : Int32} {z : Int} (X : SK K G R0 cc nL own) (d : decode cc pc = .ok (.iushr, 1)) (hz : (x.toUInt32 >>> (y.toUInt32 &&& Int32.toUInt32 31)).toInt32 = iI z) (k : SW K G nL nc ns (pc + 1) lv (.int (iI z) :: st) ws) : SW K G nL nc ns pc lv (.int y :: .int x :: st) ws := by
  intro H locs ls hP hD hS hl
  refine lv_iushr X.1 X.2.1 d hz ?_
  exact k H locs ls hP hD hS hl
theorem s_land {x y : Int64} {z : Int} (X : SK K G R0 cc nL own) (d : decode cc pc = .ok (.land, 1)) (hz : x &&& y = lI z) (k : SW K G nL nc ns (pc + 1) lv (.long (lI z) :: st) ws) : SW K G nL nc ns pc lv (.long y :: .long x :: st) ws := by
  intro H locs ls hP hD hS hl
  refine lv_land X.1 X.2.1 d ?_
  rw [hz]
  exact k H locs ls hP hD hS hl
theorem s_lshr {x : Int64} {y : Int32} {z : Int} (X : SK K G R0 cc nL own) (d : decode cc pc = .ok (.lshr, 1)) (hz : x >>> (y.toInt64 &&& 63) = lI z) (k : SW K G nL nc ns (pc + 1) lv (.long (lI z) :: st) ws) : SW K G nL nc ns pc lv (.int y :: .long x :: st) ws := by
  intro H locs ls hP hD hS hl
  refine lv_lshr X.1 X.2.1 d hz ?_
  exact k H locs ls hP hD hS hl
theorem s_i2l {a : Int} (X : SK K G R0 cc nL own) (d : decode cc pc = .ok (.i2l, 1)) (ha : R32 a) (k : SW K G nL nc ns (pc + 1) lv (.long (lI a) :: st) ws) : SW K G nL nc ns pc lv (.int (iI a) :: st) ws := by
  intro H locs ls hP hD hS hl
  refine lv_i2l X.1 X.2.1 d (iI_l ha) ?_
  exact k H locs ls hP hD hS hl
theorem s_l2i {a : Int} (X : SK K G R0 cc nL own) (d : decode cc pc = .ok (.l2i, 1)) (k : SW K G nL nc ns (pc + 1) lv (.int (iI a) :: st) ws) : SW K G nL nc ns pc lv (.long (lI a) :: st) ws := by
  intro H locs ls hP hD hS hl
  refine lv_l2i X.1 X.2.1 d (lI_i a) ?_
  exact k H locs ls hP hD hS hl
theorem s_i2b {a : Int} (X : SK K G R0 cc nL own) (d : decode cc pc = .ok (.i2b, 1)) (k : SW K G nL nc ns (pc + 1) lv (.int (sb (by8 a)) :: st) ws) : SW K G nL nc ns pc lv (.int (iI a) :: st) ws := by
  intro H locs ls hP hD hS hl
  refine lv_i2b X.1 X.2.1 d (sb_of a) ?_
  exact k H locs ls hP hD hS hl
theorem s_i2d {x : Int32} (X : SK K G R0 cc nL own) (d : decode cc pc = .ok (.i2d, 1)) (k : SW K G nL nc ns (pc + 1) lv (.double (FP.i2d x) :: st) ws) : SW K G nL nc ns pc lv (.int x :: st) ws := by
  intro H locs ls hP hD hS hl
  refine lv_i2d X.1 X.2.1 d ?_
  exact k H locs ls hP hD hS hl
theorem s_l2d {x : Int64} (X : SK K G R0 cc nL own) (d : decode cc pc = .ok (.l2d, 1)) (k : SW K G nL nc ns (pc + 1) lv (.double (FP.l2d x) :: st) ws) : SW K G nL nc ns pc lv (.long x :: st) ws := by
  intro H locs ls hP hD hS hl
  refine lv_l2d X.1 X.2.1 d ?_
  exact k H locs ls hP hD hS hl
theorem s_dadd {x y : UInt64} (X : SK K G R0 cc nL own) (d : decode cc pc = .ok (.dadd, 1)) (hne : vf_n64 (FP.dadd x y)) (k : SW K G nL nc ns (pc + 1) lv (.double (FP.dadd x y) :: st) ws) : SW K G nL nc ns pc lv (.double y :: .double x :: st) ws := by
  intro H locs ls hP hD hS hl
  refine lv_dadd X.1 X.2.1 d hne ?_
  exact k H locs ls hP hD hS hl
theorem s_dsub {x y : UInt64} (X : SK K G R0 cc nL own) (d : decode cc pc = .ok (.dsub, 1)) (hne : vf_n64 (FP.dsub x y)) (k : SW K G nL nc ns (pc + 1) lv (.double (FP.dsub x y) :: st) ws) : SW K G nL nc ns pc lv (.double y :: .double x :: st) ws := by
  intro H locs ls hP hD hS hl
  refine lv_dsub X.1 X.2.1 d hne ?_
  exact k H locs ls hP hD hS hl
theorem s_dmul {x y : UInt64} (X : SK K G R0 cc nL own) (d : decode cc pc = .ok (.dmul, 1)) (hne : vf_n64 (FP.dmul x y)) (k : SW K G nL nc ns (pc + 1) lv (.double (FP.dmul x y) :: st) ws) : SW K G nL nc ns pc lv (.double y :: .double x :: st) ws := by
  intro H locs ls hP hD hS hl
  refine lv_dmul X.1 X.2.1 d hne ?_
  exact k H locs ls hP hD hS hl
theorem s_ddiv {x y : UInt64} (X : SK K G R0 cc nL own) (d : decode cc pc = .ok (.ddiv, 1)) (hne : vf_n64 (FP.ddiv x y)) (k : SW K G nL nc ns (pc + 1) lv (.double (FP.ddiv x y) :: st) ws) : SW K G nL nc ns pc lv (.double y :: .double x :: st) ws := by
  intro H locs ls hP hD hS hl
  refine lv_ddiv X.1 X.2.1 d hne ?_
  exact k H locs ls hP hD hS hl
theorem s_dcmp {x y : UInt64} {op : CmpOp} (X : SK K G R0 cc nL own) (d : decode cc pc = .ok (.dcmp op, 1)) (k : SW K G nL nc ns (pc + 1) lv (.int (Op.cmpValue (FP.dcmp x y) op) :: st) ws) : SW K G nL nc ns pc lv (.double y :: .double x :: st) ws := by
  intro H locs ls hP hD hS hl
  refine lv_dcmp X.1 X.2.1 d ?_
  exact k H locs ls hP hD hS hl
theorem s_lcmp {x y : Int64} (X : SK K G R0 cc nL own) (d : decode cc pc = .ok (.lcmp, 1)) (k : SW K G nL nc ns (pc + 1) lv (.int (lg_cmp x y) :: st) ws) : SW K G nL nc ns pc lv (.long y :: .long x :: st) ws := by
  intro H locs ls hP hD hS hl
  refine W.lcmp X.1 X.2.1 d ?_
  exact k H locs ls hP hD hS hl
theorem s_dup {v : Value} (X : SK K G R0 cc nL own) (d : decode cc pc = .ok (.dup, 1)) (hv : v.category = 1) (k : SW K G nL nc ns (pc + 1) lv (v :: v :: st) ws) : SW K G nL nc ns pc lv (v :: st) ws := by
  intro H locs ls hP hD hS hl
  refine lv_dup X.1 X.2.1 d hv ?_
  exact k H locs ls hP hD hS hl
theorem s_pop {v : Value} (X : SK K G R0 cc nL own) (d : decode cc pc = .ok (.pop, 1)) (hv : v.category = 1) (k : SW K G nL nc ns (pc + 1) lv st ws) : SW K G nL nc ns pc lv (v :: st) ws := by
  intro H locs ls hP hD hS hl
  refine lv_pop X.1 X.2.1 d hv ?_
  exact k H locs ls hP hD hS hl
theorem s_goto {off : Int} (X : SK K G R0 cc nL own) (tgt : Nat) (d : decode cc pc = .ok (.goto off, 3)) (ht : (pc : Int) + off = (tgt : Int)) (k : SW K G nL nc ns tgt lv st ws) : SW K G nL nc ns pc lv st ws := by
  intro H locs ls hP hD hS hl
  exact lv_goto X.1 X.2.1 d ht (k H locs ls hP hD hS hl)
theorem s_icmp_eq {off : Int} {a b : Int} (X : SK K G R0 cc nL own) (tgt : Nat) (d : decode cc pc = .ok (.if_icmp .eq off, 3)) (ht : (pc : Int) + off = (tgt : Int)) (hr : R32 a ∧ R32 b) (kt : a = b → SW K G nL nc ns tgt lv st ws) (kf : ¬ a = b → SW K G nL nc ns (pc + 3) lv st ws) : SW K G nL nc ns pc lv (.int (iI b) :: .int (iI a) :: st) ws := by
  intro H locs ls hP hD hS hl
  refine lv_icmp_eq X.1 X.2.1 d ht (fun h => kt ?_ H locs ls hP hD hS hl) (fun h => kf ?_ H locs ls hP hD hS hl)
  all_goals (first | rw [iI_eq hr.1 hr.2] at h | rw [iI_lt hr.1 hr.2] at h | rw [iI_le hr.1 hr.2] at h | rw [iI_lt hr.2 hr.1] at h | rw [iI_le hr.2 hr.1] at h | skip); omega
theorem s_if_eq {off : Int} {a : Int} (X : SK K G R0 cc nL own) (tgt : Nat) (d : decode cc pc = .ok (.ifCond .eq off, 3)) (ht : (pc : Int) + off = (tgt : Int)) (hr : R32 a) (kt : a = 0 → SW K G nL nc ns tgt lv st ws) (kf : ¬ a = 0 → SW K G nL nc ns (pc + 3) lv st ws) : SW K G nL nc ns pc lv (.int (iI a) :: st) ws := by
  have h0 : R32 0 := by decide
  intro H locs ls hP hD hS hl
  refine lv_if_eq X.1 X.2.1 d ht (fun h => kt ?_ H locs ls hP hD hS hl) (fun h => kf ?_ H locs ls hP hD hS hl)
  all_goals rw [← iI_0] at h
  all_goals (first | rw [iI_eq hr h0] at h | rw [iI_lt hr h0] at h | rw [iI_le hr h0] at h | rw [iI_lt h0 hr] at h | rw [iI_le h0 hr] at h | skip); omega
theorem s_icmp_ne {off : Int} {a b : Int} (X : SK K G R0 cc nL own) (tgt : Nat) (d : decode cc pc = .ok (.if_icmp .ne off, 3)) (ht : (pc : Int) + off = (tgt : Int)) (hr : R32 a ∧ R32 b) (kt : ¬ a = b → SW K G nL nc ns tgt lv st ws) (kf : a = b → SW K G nL nc ns (pc + 3) lv st ws) : SW K G nL nc ns pc lv (.int (iI b) :: .int (iI a) :: st) ws := by
  intro H locs ls hP hD hS hl
  refine lv_icmp_ne X.1 X.2.1 d ht (fun h => kt ?_ H locs ls hP hD hS hl) (fun h => kf ?_ H locs ls hP hD hS hl)
  all_goals (first | rw [iI_eq hr.1 hr.2] at h | rw [iI_lt hr.1 hr.2] at h | rw [iI_le hr.1 hr.2] at h | rw [iI_lt hr.2 hr.1] at h | rw [iI_le hr.2 hr.1] at h | skip); omega
theorem s_if_ne {off : Int} {a : Int} (X : SK K G R0 cc nL own) (tgt : Nat) (d : decode cc pc = .ok (.ifCond .ne off, 3)) (ht : (pc : Int) + off = (tgt : Int)) (hr : R32 a) (kt : ¬ a = 0 → SW K G nL nc ns tgt lv st ws) (kf : a = 0 → SW K G nL nc ns (pc + 3) lv st ws) : SW K G nL nc ns pc lv (.int (iI a) :: st) ws := by
  have h0 : R32 0 := by decide
  intro H locs ls hP hD hS hl
  refine lv_if_ne X.1 X.2.1 d ht (fun h => kt ?_ H locs ls hP hD hS hl) (fun h => kf ?_ H locs ls hP hD hS hl)
  all_goals rw [← iI_0] at h
  all_goals (first | rw [iI_eq hr h0] at h | rw [iI_lt hr h0] at h | rw [iI_le hr h0] at h | rw [iI_lt h0 hr] at h | rw [iI_le h0 hr] at h | skip); omega
theorem s_icmp_lt {off : Int} {a b : Int} (X : SK K G R0 cc nL own) (tgt : Nat) (d : decode cc pc = .ok (.if_icmp .lt off, 3)) (ht : (pc : Int) + off = (tgt : Int)) (hr : R32 a ∧ R32 b) (kt : a < b → SW K G nL nc ns tgt lv st ws) (kf : b ≤ a → SW K G nL nc ns (pc + 3) lv st ws) : SW K G nL nc ns pc lv (.int (iI b) :: .int (iI a) :: st) ws := by
  intro H locs ls hP hD hS hl
  refine lv_icmp_lt X.1 X.2.1 d ht (fun h => kt ?_ H locs ls hP hD hS hl) (fun h => kf ?_ H locs ls hP hD hS hl)
  all_goals (first | rw [iI_eq hr.1 hr.2] at h | rw [iI_lt hr.1 hr.2] at h | rw [iI_le hr.1 hr.2] at h | rw [iI_lt hr.2 hr.1] at h | rw [iI_le hr.2 hr.1] at h | skip); omega
theorem s_if_lt {off : Int} {a : Int} (X : SK K G R0 cc nL own) (tgt : Nat) (d : decode cc pc = .ok (.ifCond .lt off, 3)) (ht : (pc : Int) + off = (tgt : Int)) (hr : R32 a) (kt : a < 0 → SW K G nL nc ns tgt lv st ws) (kf : 0 ≤ a → SW K G nL nc ns (pc + 3) lv st ws) : SW K G nL nc ns pc lv (.int (iI a) :: st) ws := by
  have h0 : R32 0 := by decide
  intro H locs ls hP hD hS hl
  refine lv_if_lt X.1 X.2.1 d ht (fun h => kt ?_ H locs ls hP hD hS hl) (fun h => kf ?_ H locs ls hP hD hS hl)
  all_goals rw [← iI_0] at h
  all_goals (first | rw [iI_eq hr h0] at h | rw [iI_lt hr h0] at h | rw [iI_le hr h0] at h | rw [iI_lt h0 hr] at h | rw [iI_le h0 hr] at h | skip); omega
theorem s_icmp_ge {off : Int} {a b : Int} (X : SK K G R0 cc nL own) (tgt : Nat) (d : decode cc pc = .ok (.if_icmp .ge off, 3)) (ht : (pc : Int) + off = (tgt : Int)) (hr : R32 a ∧ R32 b) (kt : b ≤ a → SW K G nL nc ns tgt lv st ws) (kf : a < b → SW K G nL nc ns (pc + 3) lv st ws) : SW K G nL nc ns pc lv (.int (iI b) :: .int (iI a) :: st) ws := by
  intro H locs ls hP hD hS hl
  refine lv_icmp_ge X.1 X.2.1 d ht (fun h => kt ?_ H locs ls hP hD hS hl) (fun h => kf ?_ H locs ls hP hD hS hl)
  all_goals (first | rw [iI_eq hr.1 hr.2] at h | rw [iI_lt hr.1 hr.2] at h | rw [iI_le hr.1 hr.2] at h | rw [iI_lt hr.2 hr.1] at h | rw [iI_le hr.2 hr.1] at h | skip); omega
theorem s_if_ge {off : Int} {a : Int} (X : SK K G R0 cc nL own) (tgt : Nat) (d : decode cc pc = .ok (.ifCond .ge off, 3)) (ht : (pc : Int) + off = (tgt : Int)) (hr : R32 a) (kt : 0 ≤ a → SW K G nL nc ns tgt lv st ws) (kf : a < 0 → SW K G nL nc ns (pc + 3) lv st ws) : SW K G nL nc ns pc lv (.int (iI a) :: st) ws := by
  have h0 : R32 0 := by decide
  intro H locs ls hP hD hS hl
  refine lv_if_ge X.1 X.2.1 d ht (fun h => kt ?_ H locs ls hP hD hS hl) (fun h => kf ?_ H locs ls hP hD hS hl)
  all_goals rw [← iI_0] at h
  all_goals (first | rw [iI_eq hr h0] at h | rw [iI_lt hr h0] at h | rw [iI_le hr h0] at h | rw [iI_lt h0 hr] at h | rw [iI_le h0 hr] at h | skip); omega
theorem s_icmp_gt {off : Int} {a b : Int} (X : SK K G R0 cc nL own) (tgt : Nat) (d : decode cc pc = .ok (.if_icmp .gt off, 3)) (ht : (pc : Int) + off = (tgt : Int)) (hr : R32 a ∧ R32 b) (kt : b < a → SW K G nL nc ns tgt lv st ws) (kf : a ≤ b → SW K G nL nc ns (pc + 3) lv st ws) : SW K G nL nc ns pc lv (.int (iI b) :: .int (iI a) :: st) ws := by
  intro H locs ls hP hD hS hl
  refine lv_icmp_gt X.1 X.2.1 d ht (fun h => kt ?_ H locs ls hP hD hS hl) (fun h => kf ?_ H locs ls hP hD hS hl)
  all_goals (first | rw [iI_eq hr.1 hr.2] at h | rw [iI_lt hr.1 hr.2] at h | rw [iI_le hr.1 hr.2] at h | rw [iI_lt hr.2 hr.1] at h | rw [iI_le hr.2 hr.1] at h | skip); omega
theorem s_if_gt {off : Int} {a : Int} (X : SK K G R0 cc nL own) (tgt : Nat) (d : decode cc pc = .ok (.ifCond .gt off, 3)) (ht : (pc : Int) + off = (tgt : Int)) (hr : R32 a) (kt : 0 < a → SW K G nL nc ns tgt lv st ws) (kf : a ≤ 0 → SW K G nL nc ns (pc + 3) lv st ws) : SW K G nL nc ns pc lv (.int (iI a) :: st) ws := by
  have h0 : R32 0 := by decide
  intro H locs ls hP hD hS hl
  refine lv_if_gt X.1 X.2.1 d ht (fun h => kt ?_ H locs ls hP hD hS hl) (fun h => kf ?_ H locs ls hP hD hS hl)
  all_goals rw [← iI_0] at h
  all_goals (first | rw [iI_eq hr h0] at h | rw [iI_lt hr h0] at h | rw [iI_le hr h0] at h | rw [iI_lt h0 hr] at h | rw [iI_le h0 hr] at h | skip); omega
theorem s_icmp_le {off : Int} {a b : Int} (X : SK K G R0 cc nL own) (tgt : Nat) (d : decode cc pc = .ok (.if_icmp .le off, 3)) (ht : (pc : Int) + off = (tgt : Int)) (hr : R32 a ∧ R32 b) (kt : a ≤ b → SW K G nL nc ns tgt lv st ws) (kf : b < a → SW K G nL nc ns (pc + 3) lv st ws) : SW K G nL nc ns pc lv (.int (iI b) :: .int (iI a) :: st) ws := by
  intro H locs ls hP hD hS hl
  refine lv_icmp_le X.1 X.2.1 d ht (fun h => kt ?_ H locs ls hP hD hS hl) (fun h => kf ?_ H locs ls hP hD hS hl)
  all_goals (first | rw [iI_eq hr.1 hr.2] at h | rw [iI_lt hr.1 hr.2] at h | rw [iI_le hr.1 hr.2] at h | rw [iI_lt hr.2 hr.1] at h | rw [iI_le hr.2 hr.1] at h | skip); omega
theorem s_if_le {off : Int} {a : Int} (X : SK K G R0 cc nL own) (tgt : Nat) (d : decode cc pc = .ok (.ifCond .le off, 3)) (ht : (pc : Int) + off = (tgt : Int)) (hr : R32 a) (kt : a ≤ 0 → SW K G nL nc ns tgt lv st ws) (kf : 0 < a → SW K G nL nc ns (pc + 3) lv st ws) : SW K G nL nc ns pc lv (.int (iI a) :: st) ws := by
  have h0 : R32 0 := by decide
  intro H locs ls hP hD hS hl
  refine lv_if_le X.1 X.2.1 d ht (fun h => kt ?_ H locs ls hP hD hS hl) (fun h => kf ?_ H locs ls hP hD hS hl)
  all_goals rw [← iI_0] at h
  all_goals (first | rw [iI_eq hr h0] at h | rw [iI_lt hr h0] at h | rw [iI_le hr h0] at h | rw [iI_lt h0 hr] at h | rw [iI_le h0 hr] at h | skip); omega
theorem s_tf_eq {off : Int} {c : Prop} [Decidable c] (X : SK K G R0 cc nL own) (tgt : Nat) (d : decode cc pc = .ok (.ifCond .eq off, 3)) (ht : (pc : Int) + off = (tgt : Int)) (kt : ¬ c → SW K G nL nc ns tgt lv st ws) (kf : c → SW K G nL nc ns (pc + 3) lv st ws) : SW K G nL nc ns pc lv (.int (iI (tf c)) :: st) ws := by
  refine s_if_eq X tgt d ht (tf_R c) (fun h => kt ?_) (fun h => kf ?_)
  all_goals (by_cases hc : c <;> simp_all [tf])
theorem s_tf_ne {off : Int} {c : Prop} [Decidable c] (X : SK K G R0 cc nL own) (tgt : Nat) (d : decode cc pc = .ok (.ifCond .ne off, 3)) (ht : (pc : Int) + off = (tgt : Int)) (kt : c → SW K G nL nc ns tgt lv st ws) (kf : ¬ c → SW K G nL nc ns (pc + 3) lv st ws) : SW K G nL nc ns pc lv (.int (iI (tf c)) :: st) ws := by
  refine s_if_ne X tgt d ht (tf_R c) (fun h => kt ?_) (fun h => kf ?_)
  all_goals (by_cases hc : c <;> simp_all [tf])
theorem s_lookup {dflt : Int} {ps : Array (Int × Int)} {len : Nat} {z off : Int} (X : SK K G R0 cc nL own) (tgt : Nat) (d : decode cc pc = .ok (.lookupswitch dflt ps, len)) (hp : (ps.toList.zip (ps.toList.drop 1)).all (fun (a, next) => a.1 < next.1) = true) (hr : R32 z) (ho : Op.lookupswitch.offset ps.toList dflt z = off) (ht : (pc : Int) + off = (tgt : Int)) (k : SW K G nL nc ns tgt lv st ws) : SW K G nL nc ns pc lv (.int (iI z) :: st) ws := by
  intro H locs ls hP hD hS hl
  exact lv_lookup X.1 X.2.1 d hp (by rw [iI_toInt hr]; exact ho) ht (k H locs ls hP hD hS hl)
theorem s_tableIn {dflt lo hi : Int} {offs : Array Int} {len : Nat} {z off : Int} (X : SK K G R0 cc nL own) (tgt : Nat) (d : decode cc pc = .ok (.tableswitch dflt lo hi offs, len)) (hr : R32 z) (h1 : ¬ z < lo) (h2 : ¬ hi < z) (ho : offs[(z - lo).toNat]? = some off) (ht : (pc : Int) + off = (tgt : Int)) (k : SW K G nL nc ns tgt lv st ws) : SW K G nL nc ns pc lv (.int (iI z) :: st) ws := by
  intro H locs ls hP hD hS hl
  exact lv_tableIn X.1 X.2.1 d (by rw [iI_toInt hr]; exact h1) (by rw [iI_toInt hr]; exact h2) (by rw [iI_toInt hr]; exact ho) ht (k H locs ls hP hD hS hl)
theorem s_tableOut {dflt lo hi : Int} {offs : Array Int} {len : Nat} {z : Int} (X : SK K G R0 cc nL own) (tgt : Nat) (d : decode cc pc = .ok (.tableswitch dflt lo hi offs, len)) (hr : R32 z) (h : z < lo ∨ hi < z) (ht : (pc : Int) + dflt = (tgt : Int)) (k : SW K G nL nc ns tgt lv st ws) : SW K G nL nc ns pc lv (.int (iI z) :: st) ws := by
  intro H locs ls hP hD hS hl
  exact lv_tableOut X.1 X.2.1 d (by rw [iI_toInt hr]; exact h) ht (k H locs ls hP hD hS hl)
/-- a field's link, closed: own's entry index is field k of class ci of vwCl -/
def FL (own : String) (index ci k : Nat) (C : String) (T : u_T) (N : Nat) : Prop := vwCl[ci]? = some (C, T, N) ∧ k < N ∧ TG (.fieldLink own index (T k).1 (T k).2.1 (T k).2.2.1) ∧ (∀ w ∈ u_ws C T N, TG w)
theorem ts_of {K : KX} {G : GX} {R0 : Room} {cc : ByteArray} {nL : Nat} {own : String} (X : SK K G R0 cc nL own) {Ts : List Cond} (h : ∀ w ∈ Ts, TG w) : ∀ w ∈ Ts, w.before (ka K) (ks K) = true := fun w hw => X.tb (h w hw) _
theorem s_get {index ci k9 N a : Nat} {C : String} {T : u_T} {fs : List Value} {v : Value} (X : SK K G R0 cc nL own) (d : decode cc pc = .ok (.getfield index, 3)) (f : FL own index ci k9 C T N) (i : Nat) (he : ws[i]? = some (a, .inr (ci, fs))) (hv : fs[k9]? = some v) (k : SW K G nL nc ns (pc + 3) lv (v :: st) ws) : SW K G nL nc ns pc lv (.ref a :: st) ws := by
  intro H locs ls hP hD hS hl
  exact va_get X.1 X.2.1 (ts_of X f.2.2.2) (fun w h => h) X.2.2.2.1 X.2.2.2.2.1.1 hP i he f.1 k9 f.2.1 (X.tb f.2.2.1 _) (fun _ h9 => h9) hv d (k H locs ls hP hD hS hl)
theorem s_put {index ci k9 N a : Nat} {C : String} {T : u_T} {ty0 : Nat → FieldType} {fs : List Value} {v : Value} (X : SK K G R0 cc nL own) (d : decode cc pc = .ok (.putfield index, 3)) (f : FL own index ci k9 C T N) (hty : ∀ k, k < N → parseFieldDescriptor (T k).2.2.1 = some (ty0 k)) (hnm : ∀ a, a < N → ∀ b, b < N → a ≠ b → (T a).2.1 ≠ (T b).2.1) (i : Nat) (he : ws[i]? = some (a, .inr (ci, fs))) (hfin : (T k9).2.2.2 = false) (hn : narrow (ty0 k9) v = v) (hfit : fits (ty0 k9) v = true) (hlen : k9 < fs.length) (ws9 : va_W) (hw : ws.set i (a, .inr (ci, fs.set k9 v)) = ws9) (k : SW K G nL nc ns (pc + 3) lv st ws9) : SW K G nL nc ns pc lv (v :: .ref a :: st) ws := by
  intro H locs ls hP hD hS hl
  subst hw
  exact va_put X.1 X.2.1 (ts_of X f.2.2.2) (fun w h => h) ty0 hty hnm X.2.2.2.1 X.2.2.2.2.1.1 hP hD hS i he f.1 k9 f.2.1 (X.tb f.2.2.1 _) (fun _ h9 => h9) hfin (hty k9 f.2.1) hn hfit hlen d (fun H1 locs1 hP1 hD1 hS1 => k H1 locs1 ls hP1 hD1 hS1 hl)
theorem s_putF {index ci k9 N a : Nat} {C : String} {T : u_T} {ty0 : Nat → FieldType} {fs : List Value} {v : Value} (X : SK K G R0 cc nL own) (hin : (kme K).name = "<init>") (d : decode cc pc = .ok (.putfield index, 3)) (f : FL own index ci k9 C T N) (hty : ∀ k, k < N → parseFieldDescriptor (T k).2.2.1 = some (ty0 k)) (hnm : ∀ a, a < N → ∀ b, b < N → a ≠ b → (T a).2.1 ≠ (T b).2.1) (i : Nat) (he : ws[i]? = some (a, .inr (ci, fs))) (hfin : (T k9).2.2.2 = true) (hdecl : (T k9).1 = own) (hn : narrow (ty0 k9) v = v) (hfit : fits (ty0 k9) v = true) (hlen : k9 < fs.length) (ws9 : va_W) (hw : ws.set i (a, .inr (ci, fs.set k9 v)) = ws9) (k : SW K G nL nc ns (pc + 3) lv st ws9) : SW K G nL nc ns pc lv (v :: .ref a :: st) ws := by
  intro H locs ls hP hD hS hl
  subst hw
  exact va_putF X.1 X.2.1 (ts_of X f.2.2.2) (fun w h => h) ty0 hty hnm X.2.2.2.1 X.2.2.2.2.1.1 hP hD hS i he f.1 k9 f.2.1 (X.tb f.2.2.1 _) (fun _ h9 => h9) hfin hin hdecl (hty k9 f.2.1) hn hfit hlen d (fun H1 locs1 hP1 hD1 hS1 => k H1 locs1 ls hP1 hD1 hS1 hl)
/-- arrays -/
theorem s_bald {a n : Nat} {B : Nat → Nat} {z : Int} (X : SK K G R0 cc nL own) (d : decode cc pc = .ok (.baload, 1)) (i : Nat) (he : ws[i]? = some (a, .inl (gB G, n, .inl (fB B)))) (hz : 0 ≤ z ∧ z < n ∧ n < 2147483648) (k : SW K G nL nc ns (pc + 1) lv (.int (sb (B z.toNat)) :: st) ws) : SW K G nL nc ns pc lv (.int (iI z) :: .ref a :: st) ws := by
  intro H locs ls hP hD hS hl
  refine va_bald X.1 X.2.1 X.2.2.2.2.1.1 hP i 0 he rfl (iI_in hz.1 hz.2.1 hz.2.2) d ?_
  rw [iI_cl ⟨by omega, by omega⟩]
  exact k H locs ls hP hD hS hl
theorem s_iald {a n : Nat} {P : Nat → Int} {z : Int} (X : SK K G R0 cc nL own) (d : decode cc pc = .ok (.iaload, 1)) (i : Nat) (he : ws[i]? = some (a, .inl (gI G, n, .inl (fI P)))) (hz : 0 ≤ z ∧ z < n ∧ n < 2147483648) (k : SW K G nL nc ns (pc + 1) lv (.int (iI (P z.toNat)) :: st) ws) : SW K G nL nc ns pc lv (.int (iI z) :: .ref a :: st) ws := by
  intro H locs ls hP hD hS hl
  refine va_iald X.1 X.2.1 X.2.2.2.2.1.1 hP i 1 he rfl (iI_in hz.1 hz.2.1 hz.2.2) d ?_
  rw [iI_cl ⟨by omega, by omega⟩]
  exact k H locs ls hP hD hS hl
theorem s_dald {a n : Nat} {P : Nat → UInt64} {z : Int} (X : SK K G R0 cc nL own) (d : decode cc pc = .ok (.daload, 1)) (i : Nat) (he : ws[i]? = some (a, .inl (gF G, n, .inr (.inr (.inr (.inl P)))))) (hz : 0 ≤ z ∧ z < n ∧ n < 2147483648) (k : SW K G nL nc ns (pc + 1) lv (.double (P z.toNat) :: st) ws) : SW K G nL nc ns pc lv (.int (iI z) :: .ref a :: st) ws := by
  intro H locs ls hP hD hS hl
  refine va_dald X.1 X.2.1 X.2.2.2.2.1.1 hP i 2 he rfl (iI_in hz.1 hz.2.1 hz.2.2) d ?_
  rw [iI_cl ⟨by omega, by omega⟩]
  exact k H locs ls hP hD hS hl
theorem s_bast {a n : Nat} {B : Nat → Nat} {z : Int} {v : Nat} (X : SK K G R0 cc nL own) (d : decode cc pc = .ok (.bastore, 1)) (i : Nat) (he : ws[i]? = some (a, .inl (gB G, n, .inl (fB B)))) (hz : 0 ≤ z ∧ z < n ∧ n < 2147483648) (ws9 : va_W) (hw : ws.set i (a, .inl (gB G, n, .inl (fB (uB B z.toNat v)))) = ws9) (k : SW K G nL nc ns (pc + 1) lv st ws9) : SW K G nL nc ns pc lv (.int (sb v) :: .int (iI z) :: .ref a :: st) ws := by
  intro H locs ls hP hD hS hl
  subst hw
  refine va_bast X.1 X.2.1 X.2.2.2.2.1.1 hP hD hS i 0 he rfl (iI_in hz.1 hz.2.1 hz.2.2) d (fun H1 locs1 hP1 hD1 hS1 => ?_)
  rw [iI_cl ⟨by omega, by omega⟩, sb_nar, fB_up] at hP1 hD1
  exact k H1 locs1 ls hP1 hD1 hS1 hl
theorem s_iast {a n : Nat} {P : Nat → Int} {z v : Int} (X : SK K G R0 cc nL own) (d : decode cc pc = .ok (.iastore, 1)) (i : Nat) (he : ws[i]? = some (a, .inl (gI G, n, .inl (fI P)))) (hz : 0 ≤ z ∧ z < n ∧ n < 2147483648) (ws9 : va_W) (hw : ws.set i (a, .inl (gI G, n, .inl (fI (uI P z.toNat v)))) = ws9) (k : SW K G nL nc ns (pc + 1) lv st ws9) : SW K G nL nc ns pc lv (.int (iI v) :: .int (iI z) :: .ref a :: st) ws := by
  intro H locs ls hP hD hS hl
  subst hw
  refine va_iast X.1 X.2.1 X.2.2.2.2.1.1 hP hD hS i 1 he rfl (iI_in hz.1 hz.2.1 hz.2.2) d (fun H1 locs1 hP1 hD1 hS1 => ?_)
  rw [iI_cl ⟨by omega, by omega⟩, fI_up] at hP1 hD1
  exact k H1 locs1 ls hP1 hD1 hS1 hl
theorem uD_vf (P : Nat → UInt64) (k : Nat) (v : UInt64) : vf_upd P k v = uD P k v := by
  funext j; unfold vf_upd uD; by_cases h : j = k <;> simp [h]
theorem s_dast {a n : Nat} {P : Nat → UInt64} {z : Int} {v : UInt64} (X : SK K G R0 cc nL own) (d : decode cc pc = .ok (.dastore, 1)) (i : Nat) (he : ws[i]? = some (a, .inl (gF G, n, .inr (.inr (.inr (.inl P)))))) (hz : 0 ≤ z ∧ z < n ∧ n < 2147483648) (ws9 : va_W) (hw : ws.set i (a, .inl (gF G, n, .inr (.inr (.inr (.inl (uD P z.toNat v)))))) = ws9) (k : SW K G nL nc ns (pc + 1) lv st ws9) : SW K G nL nc ns pc lv (.double v :: .int (iI z) :: .ref a :: st) ws := by
  intro H locs ls hP hD hS hl
  subst hw
  refine va_dast X.1 X.2.1 X.2.2.2.2.1.1 hP hD hS i 2 he rfl (iI_in hz.1 hz.2.1 hz.2.2) d (fun H1 locs1 hP1 hD1 hS1 => ?_)
  rw [iI_cl ⟨by omega, by omega⟩, uD_vf] at hP1 hD1
  exact k H1 locs1 ls hP1 hD1 hS1 hl
theorem s_alen {a n : Nat} {c9 : ClassId} {f : (Nat → Int32) ⊕ (Nat → Int64) ⊕ (Nat → UInt32) ⊕ (Nat → UInt64) ⊕ (Nat → Option Nat)} {ty : FieldType} (X : SK K G R0 cc nL own) (d : decode cc pc = .ok (.arraylength, 1)) (i t0 : Nat) (he : ws[i]? = some (a, .inl (c9, n, f))) (ht : (gT G)[t0]? = some (c9, ty)) {z : Int} (hz : (n : Int) = z) (k : SW K G nL nc ns (pc + 1) lv (.int (iI z) :: st) ws) : SW K G nL nc ns pc lv (.ref a :: st) ws := by
  intro H locs ls hP hD hS hl
  subst hz
  exact va_alen X.1 X.2.1 X.2.2.2.2.1.1 hP i t0 he ht (v := iI (n : Int)) (Int32.ofInt_eq_ofNat).symm d (k H locs ls hP hD hS hl)
end SROWS
end
section
/-! CONTRACTS over worlds, and calls of them. Ct?: from the cells wc, with the arguments As, the method returns, and its answer and the cells behind it are as 'post' says. -/
theorem fm_of {α : Type} {f : Nat → Option α} {is : List Nat} {l : List α} (h : is.map f = l.map some) : is.filterMap f = l := by
  have h1 := congrArg (List.filterMap id) h
  simpa [List.filterMap_map, Function.comp_def] using h1
def preW (G : GX) (wc : va_W) (sz : Nat) : State → Prop := fun U => U.heap.size = sz ∧ va_P (gD G) vwCl wc U.heap ∧ GK G U ∧ va_D (fun _ => True) wc
def posW (G : GX) (wc : va_W) (sz : Nat) : va_W → State → Prop := fun w t => va_P (gD G) vwCl w t.heap ∧ va_D (va_A wc sz) w
theorem preW.blind {G : GX} {wc : va_W} {sz : Nat} {As : List Value} : FrameBlind (va_Pc As (preW G wc sz)) := fun a U g mk q => ⟨q.1, q.2.1, q.2.2.1, GK.same (s := U) (U := U.calling g mk a) rfl q.2.2.2.1, q.2.2.2.2⟩
def qI (post : Int → va_W → Prop) : Int32 → va_W → Prop := fun r w => ∃ z : Int, r = iI z ∧ post z w
def qL (post : Int → va_W → Prop) : Int64 → va_W → Prop := fun r w => ∃ z : Int, r = lI z ∧ post z w
def CtI (l : Launch) (G : GX) (y : MethodName) (b : ByteArray) (n : Nat) (ret : Option FieldType) (rm : Room) (As : List Value) (wc : va_W) (post : Int → va_W → Prop) : Prop := ∀ sz, Met l y [.code y b n ret] rm (va_Pc As (preW G wc sz)) (va_Qi (qI post) (posW G wc sz) (va_A wc sz)) rm.cells rm.slots (va_A wc sz)
def CtL (l : Launch) (G : GX) (y : MethodName) (b : ByteArray) (n : Nat) (ret : Option FieldType) (rm : Room) (As : List Value) (wc : va_W) (post : Int → va_W → Prop) : Prop := ∀ sz, Met l y [.code y b n ret] rm (va_Pc As (preW G wc sz)) (va_Ql (qL post) (posW G wc sz) (va_A wc sz)) rm.cells rm.slots (va_A wc sz)
def CtD (l : Launch) (G : GX) (y : MethodName) (b : ByteArray) (n : Nat) (ret : Option FieldType) (rm : Room) (As : List Value) (wc : va_W) (post : UInt64 → va_W → Prop) : Prop := ∀ sz, Met l y [.code y b n ret] rm (va_Pc As (preW G wc sz)) (va_Qd post (posW G wc sz) (va_A wc sz)) rm.cells rm.slots (va_A wc sz)
def CtV (l : Launch) (G : GX) (y : MethodName) (b : ByteArray) (n : Nat) (ret : Option FieldType) (rm : Room) (As : List Value) (wc : va_W) (post : va_W → Prop) : Prop := ∀ sz, Met l y [.code y b n ret] rm (va_Pc As (preW G wc sz)) (va_Qv post (posW G wc sz) (va_A wc sz)) rm.cells rm.slots (va_A wc sz)
/-- the end that a walk owes -/
def RQ (K : KX) (G : GX) (ret : Option FieldType) (nc ns : Nat) (QQ : va_W → Nat → Array Value → State → Outcome → State → Prop) : Prop :=
  (kme K).sig.returnType = ret ∧ (kme K).locks = false ∧ ∃ (wc : va_W) (sz : Nat), kQ K = MQ (kb K) (QQ wc sz) (ka K) (ks K) nc ns (va_A wc sz) ∧ kA K = va_A wc sz ∧ kH K = (ks K).heap
def RI (K : KX) (G : GX) (ret : Option FieldType) (nc ns : Nat) (post : Int → va_W → Prop) : Prop := RQ K G ret nc ns (fun wc sz => va_Qi (qI post) (posW G wc sz) (va_A wc sz))
def RLg (K : KX) (G : GX) (ret : Option FieldType) (nc ns : Nat) (post : Int → va_W → Prop) : Prop := RQ K G ret nc ns (fun wc sz => va_Ql (qL post) (posW G wc sz) (va_A wc sz))
def RD (K : KX) (G : GX) (ret : Option FieldType) (nc ns : Nat) (post : UInt64 → va_W → Prop) : Prop := RQ K G ret nc ns (fun wc sz => va_Qd post (posW G wc sz) (va_A wc sz))
def RV (K : KX) (G : GX) (ret : Option FieldType) (nc ns : Nat) (post : va_W → Prop) : Prop := RQ K G ret nc ns (fun wc sz => va_Qv post (posW G wc sz) (va_A wc sz))
theorem met_of {l : Launch} {G : GX} {y : MethodName} {b : ByteArray} {n : Nat} {ret : Option FieldType} {rm : Room} {As : List Value} {wc : va_W} {sz : Nat} (QQ : va_W → Nat → Array Value → State → Outcome → State → Prop) (hy : plainName y.cls = true) (lv0 : List (Nat × Value)) (hlv : lv_args 0 As = lv0) (hlen : (lg_sl As).length ≤ n)
    (body : ∀ K : KX, kl K = l → (kme K).name = y.name → SK K G rm b n y.cls → RQ K G ret rm.cells rm.slots QQ → SW K G n 0 0 0 lv0 [] wc) : Met l y [.code y b n ret] rm (va_Pc As (preW G wc sz)) (QQ wc sz) rm.cells rm.slots (va_A wc sz) := by
  refine Met.ofW (cc := b) (maxL := n) (ret := ret) hy rfl ?_
  intro p e s m args below meth c s₁ B hml hv
  obtain ⟨rfl, hsz, hP, hK, hD⟩ := hv
  subst hsz
  subst hlv
  have h := body (p, l, e, rm, s, m, As.toArray, below, meth, c, va_A wc s.heap.size, s.heap, MQ below (QQ wc s.heap.size) As.toArray s rm.cells rm.slots (va_A wc s.heap.size)) rfl (name_of_methodNamed B.named B.method).1 ⟨B.exec, B.bytes, hml, findClass_of_methodNamed B.named, hK, fun q h => Or.inr h, rfl⟩ ⟨B.returns, B.notSynchronized, wc, s.heap.size, rfl, rfl, rfl⟩
  have hl := lv_entry As (n := n) hlen
  rw [lg_entry_eq]
  exact h s.heap [] _ hP hD.self va_S.rf hl
section SCALL
variable {K : KX} {G : GX} {R0 : Room} {cc : ByteArray} {nL nc ns pc : Nat} {own : String} {lv : List (Nat × Value)} {st : List Value} {ws : va_W}
theorem s_iret {ty : FieldType} {z : Int} {post : Int → va_W → Prop} (X : SK K G R0 cc nL own) (Y : RI K G (some ty) nc ns post) (d : decode cc pc = .ok (.ireturn, 1)) (hn : narrow ty (.int (iI z)) = .int (iI z)) (h : post z ws) : SW K G nL nc ns pc lv [.int (iI z)] ws := by
  intro H locs ls hP hD hS hl
  obtain ⟨hr, hlk, wc, sz, hQ, hA, hH⟩ := Y
  show W _ _ _ _ _ _ _ _ _ _ _ _ _ _ (kQ K) _
  rw [hQ]
  rw [hA] at hD hS
  rw [hH] at hS
  exact W.zret X.1 X.2.1 hr hn (fun t ht hW => ⟨⟨iI z, ws, rfl, ⟨z, rfl, h⟩, by rw [ht]; exact hP, hD⟩, hS.F ht⟩) hS.2.2 d hlk
theorem s_lret {z : Int} {post : Int → va_W → Prop} (X : SK K G R0 cc nL own) (Y : RLg K G (some .long) nc ns post) (d : decode cc pc = .ok (.lreturn, 1)) (h : post z ws) : SW K G nL nc ns pc lv [.long (lI z)] ws := by
  intro H locs ls hP hD hS hl
  obtain ⟨hr, hlk, wc, sz, hQ, hA, hH⟩ := Y
  show W _ _ _ _ _ _ _ _ _ _ _ _ _ _ (kQ K) _
  rw [hQ]
  rw [hA] at hD hS
  rw [hH] at hS
  exact W.lret X.1 X.2.1 hr (fun t ht hW => ⟨⟨lI z, ws, rfl, ⟨z, rfl, h⟩, by rw [ht]; exact hP, hD⟩, hS.F ht⟩) hS.2.2 d hlk
theorem s_dret {z : UInt64} {post : UInt64 → va_W → Prop} (X : SK K G R0 cc nL own) (Y : RD K G (some .double) nc ns post) (d : decode cc pc = .ok (.dreturn, 1)) (h : post z ws) : SW K G nL nc ns pc lv [.double z] ws := by
  intro H locs ls hP hD hS hl
  obtain ⟨hr, hlk, wc, sz, hQ, hA, hH⟩ := Y
  show W _ _ _ _ _ _ _ _ _ _ _ _ _ _ (kQ K) _
  rw [hQ]
  rw [hA] at hD hS
  rw [hH] at hS
  exact W.dret X.1 X.2.1 hr (fun t ht hW => ⟨⟨z, ws, rfl, h, by rw [ht]; exact hP, hD⟩, hS.F ht⟩) hS.2.2 d hlk
theorem s_vret {post : va_W → Prop} (X : SK K G R0 cc nL own) (Y : RV K G none nc ns post) (d : decode cc pc = .ok (.return_, 1)) (h : post ws) : SW K G nL nc ns pc lv [] ws := by
  intro H locs ls hP hD hS hl
  obtain ⟨hr, hlk, wc, sz, hQ, hA, hH⟩ := Y
  show W _ _ _ _ _ _ _ _ _ _ _ _ _ _ (kQ K) _
  rw [hQ]
  rw [hA] at hD hS
  rw [hH] at hS
  exact W.vret X.1 X.2.1 hr (fun t ht hW => ⟨⟨ws, rfl, h, by rw [ht]; exact hP, hD⟩, hS.F ht⟩) hS.2.2 d hlk
/-- closed facts of a call -/
def okY (y : MethodName) (na : Nat) : Prop := y.cls ≠ "java/lang/invoke/MethodHandle" ∧ y.cls ≠ "java/lang/invoke/VarHandle" ∧ (parseMethodDescriptor y.desc).map (fun d => d.parameters.length) = some na
def LV (own : String) (idx : Nat) (y : MethodName) (b : ByteArray) (n : Nat) (ret : Option FieldType) (na : Nat) : Prop := TG (.methodLink own idx y) ∧ TG (.instanceMethod y) ∧ TG (.selects y.cls y y) ∧ TG (.initialized y.cls) ∧ TG (.code y b n ret) ∧ okY y na
def LSt (own : String) (idx : Nat) (y : MethodName) (b : ByteArray) (n : Nat) (ret : Option FieldType) (na : Nat) : Prop := TG (.methodLink own idx y) ∧ TG (.static y) ∧ TG (.initialized y.cls) ∧ TG (.code y b n ret) ∧ okY y na
def LI (own : String) (idx : Nat) (y : MethodName) (b : ByteArray) (n : Nat) (na : Nat) : Prop := TG (.methodLink own idx y) ∧ TG (.instanceMethod y) ∧ TG (.initialized y.cls) ∧ TG (.code y b n none) ∧ okY y na
def LSN (own : String) (idx : Nat) (y : MethodName) (host : String) (b : ByteArray) (n : Nat) (ret : Option FieldType) (na : Nat) : Prop := (own, idx, y, host) ∈ nests ∧ TG (.static y) ∧ TG (.initialized y.cls) ∧ TG (.code y b n ret) ∧ okY y na
def LIN (own : String) (idx : Nat) (y : MethodName) (host : String) (b : ByteArray) (n : Nat) (na : Nat) : Prop := (own, idx, y, host) ∈ nests ∧ TG (.instanceMethod y) ∧ TG (.initialized y.cls) ∧ TG (.code y b n none) ∧ okY y na
theorem good_self {ws : List Cond} (h : ∀ w ∈ ws, TG w) : GoodIn ws ws := fun w hw => ⟨hw, good_of_word (h w hw).2⟩
theorem LV.all {own : String} {idx : Nat} {y : MethodName} {b : ByteArray} {n : Nat} {ret : Option FieldType} {na : Nat} (L : LV own idx y b n ret na) : ∀ w ∈ wsV own idx y.cls y [.code y b n ret], TG w := by
  obtain ⟨h1, h2, h3, h4, h5, -⟩ := L
  intro w hw
  simp only [wsV, List.cons_append, List.nil_append, List.mem_cons, List.not_mem_nil, or_false] at hw
  rcases hw with rfl | rfl | rfl | rfl | rfl <;> assumption
theorem LSt.all {own : String} {idx : Nat} {y : MethodName} {b : ByteArray} {n : Nat} {ret : Option FieldType} {na : Nat} (L : LSt own idx y b n ret na) : ∀ w ∈ va_wsS own idx y [.code y b n ret], TG w := by
  obtain ⟨h1, h2, h3, h4, -⟩ := L
  intro w hw
  simp only [va_wsS, List.cons_append, List.nil_append, List.mem_cons, List.not_mem_nil, or_false] at hw
  rcases hw with rfl | rfl | rfl | rfl <;> assumption
theorem one_all {w0 : Cond} (h : TG w0) : ∀ w ∈ [w0], TG w := fun w hw => by rw [List.mem_singleton.mp hw]; exact h
theorem s_callIV {y : MethodName} {b : ByteArray} {n na idx : Nat} {ret : Option FieldType} {a : Nat} {rm : Room} {As rest : List Value} {post : Int → va_W → Prop} (X : SK K G R0 cc nL own) (L : LV own idx y b n ret na) (isC isR : List Nat) {wr wc : va_W} (hC : isC.map (fun i => ws[i]?) = wc.map some) (hR : isR.map (fun i => ws[i]?) = wr.map some) (hCn : va_nd isC = true) (hRn : va_nd isR = true) (hdis : ∀ i ∈ isR, i ∉ isC) (hc : CtI (kl K) G y b n ret rm (.ref a :: As) wc post) {ci N : Nat} {T : u_T} {fs : List Value} (hrc : wc[0]? = some (a, .inr (ci, fs))) (hcl : vwCl[ci]? = some (y.cls, T, N)) (d : decode cc pc = .ok (.invokevirtual idx, 3)) (hst : st = As.reverse ++ .ref a :: rest) (hna : As.length = na) (hcat : (rest.map fun v => v.category).sum ≤ 8) (hroom : (rm.frames + 1 ≤ R0.frames ∧ 8 + (n + 11) + rm.locals ≤ R0.locals) ∧ nc + rm.cells ≤ R0.cells ∧ ns + rm.slots ≤ R0.slots) (kk : ∀ (z : Int) (w9 : va_W), post z w9 → SW K G nL (nc + rm.cells) (ns + rm.slots) (pc + 3) lv (.int (iI z) :: rest) (wr ++ w9)) : SW K G nL nc ns pc lv st ws := by
  intro H locs ls hP hD hS hl
  subst hst
  have hPc := hP.sub isC (fm_of hC)
  have hDc := hD.sub isC hCn hC
  have hFc := va_free hD hS X.2.2.2.2.2.1 isC hC
  have hRk : kR K = R0 := X.2.2.2.2.2.2
  refine va_calli (va_runV (As := As) (rest := rest) ⟨X.1, X.2.1, X.2.2.1, X.2.2.2.1, ts_of X L.all⟩ (hc H.size) (cwV na (ts_of X L.all) (good_self L.all) rfl rfl rfl ⟨rfl, L.2.2.2.2.2⟩ ⟨by rw [hRk]; exact hroom.1.1, by rw [hRk]; exact hroom.1.2⟩) ⟨preW.blind, (by obtain ⟨cell, g1, g2, g3⟩ := va_recv X.2.2.2.2.1.1 hPc hcl hrc; exact ⟨cell, g1, g2, g3⟩), fun U hU hW => ⟨rfl, by rw [hU], by rw [hU]; exact hPc, GK.moved hW X.2.2.2.2.1, hDc.weaken (fun _ _ _ _ => trivial)⟩⟩ rfl hna hl.1 rfl (lv_room hcat) d ⟨by rw [hRk]; exact hroom.2.1, by rw [hRk]; exact hroom.2.2⟩) hS (fun q _ h => hFc q h) hFc (fun r u t H1 locs1 ht hvm hw hB hz1 hk1 hS1 => ?_)
  obtain ⟨z, rfl, hpost⟩ := hw
  obtain ⟨hP1, hD1⟩ := hB
  rw [ht] at hP1
  obtain ⟨hP2, hD2⟩ := va_join hP hD isC isR hC hR hRn hdis hk1 hFc hP1 hD1
  exact kk z u hpost H1 locs1 ls hP2 hD2 hS1 hl
theorem s_callLV {y : MethodName} {b : ByteArray} {n na idx : Nat} {ret : Option FieldType} {a : Nat} {rm : Room} {As rest : List Value} {post : Int → va_W → Prop} (X : SK K G R0 cc nL own) (L : LV own idx y b n ret na) (isC isR : List Nat) {wr wc : va_W} (hC : isC.map (fun i => ws[i]?) = wc.map some) (hR : isR.map (fun i => ws[i]?) = wr.map some) (hCn : va_nd isC = true) (hRn : va_nd isR = true) (hdis : ∀ i ∈ isR, i ∉ isC) (hc : CtL (kl K) G y b n ret rm (.ref a :: As) wc post) {ci N : Nat} {T : u_T} {fs : List Value} (hrc : wc[0]? = some (a, .inr (ci, fs))) (hcl : vwCl[ci]? = some (y.cls, T, N)) (d : decode cc pc = .ok (.invokevirtual idx, 3)) (hst : st = As.reverse ++ .ref a :: rest) (hna : As.length = na) (hcat : (rest.map fun v => v.category).sum ≤ 8) (hroom : (rm.frames + 1 ≤ R0.frames ∧ 8 + (n + 11) + rm.locals ≤ R0.locals) ∧ nc + rm.cells ≤ R0.cells ∧ ns + rm.slots ≤ R0.slots) (kk : ∀ (z : Int) (w9 : va_W), post z w9 → SW K G nL (nc + rm.cells) (ns + rm.slots) (pc + 3) lv (.long (lI z) :: rest) (wr ++ w9)) : SW K G nL nc ns pc lv st ws := by
  intro H locs ls hP hD hS hl
  subst hst
  have hPc := hP.sub isC (fm_of hC)
  have hDc := hD.sub isC hCn hC
  have hFc := va_free hD hS X.2.2.2.2.2.1 isC hC
  have hRk : kR K = R0 := X.2.2.2.2.2.2
  refine va_calll (va_runV (As := As) (rest := rest) ⟨X.1, X.2.1, X.2.2.1, X.2.2.2.1, ts_of X L.all⟩ (hc H.size) (cwV na (ts_of X L.all) (good_self L.all) rfl rfl rfl ⟨rfl, L.2.2.2.2.2⟩ ⟨by rw [hRk]; exact hroom.1.1, by rw [hRk]; exact hroom.1.2⟩) ⟨preW.blind, (by obtain ⟨cell, g1, g2, g3⟩ := va_recv X.2.2.2.2.1.1 hPc hcl hrc; exact ⟨cell, g1, g2, g3⟩), fun U hU hW => ⟨rfl, by rw [hU], by rw [hU]; exact hPc, GK.moved hW X.2.2.2.2.1, hDc.weaken (fun _ _ _ _ => trivial)⟩⟩ rfl hna hl.1 rfl (lv_room hcat) d ⟨by rw [hRk]; exact hroom.2.1, by rw [hRk]; exact hroom.2.2⟩) hS (fun q _ h => hFc q h) hFc (fun r u t H1 locs1 ht hvm hw hB hz1 hk1 hS1 => ?_)
  obtain ⟨z, rfl, hpost⟩ := hw
  obtain ⟨hP1, hD1⟩ := hB
  rw [ht] at hP1
  obtain ⟨hP2, hD2⟩ := va_join hP hD isC isR hC hR hRn hdis hk1 hFc hP1 hD1
  exact kk z u hpost H1 locs1 ls hP2 hD2 hS1 hl
theorem s_callDV {y : MethodName} {b : ByteArray} {n na idx : Nat} {ret : Option FieldType} {a : Nat} {rm : Room} {As rest : List Value} {post : UInt64 → va_W → Prop} (X : SK K G R0 cc nL own) (L : LV own idx y b n ret na) (isC isR : List Nat) {wr wc : va_W} (hC : isC.map (fun i => ws[i]?) = wc.map some) (hR : isR.map (fun i => ws[i]?) = wr.map some) (hCn : va_nd isC = true) (hRn : va_nd isR = true) (hdis : ∀ i ∈ isR, i ∉ isC) (hc : CtD (kl K) G y b n ret rm (.ref a :: As) wc post) {ci N : Nat} {T : u_T} {fs : List Value} (hrc : wc[0]? = some (a, .inr (ci, fs))) (hcl : vwCl[ci]? = some (y.cls, T, N)) (d : decode cc pc = .ok (.invokevirtual idx, 3)) (hst : st = As.reverse ++ .ref a :: rest) (hna : As.length = na) (hcat : (rest.map fun v => v.category).sum ≤ 8) (hroom : (rm.frames + 1 ≤ R0.frames ∧ 8 + (n + 11) + rm.locals ≤ R0.locals) ∧ nc + rm.cells ≤ R0.cells ∧ ns + rm.slots ≤ R0.slots) (kk : ∀ (z : UInt64) (w9 : va_W), post z w9 → SW K G nL (nc + rm.cells) (ns + rm.slots) (pc + 3) lv (.double z :: rest) (wr ++ w9)) : SW K G nL nc ns pc lv st ws := by
  intro H locs ls hP hD hS hl
  subst hst
  have hPc := hP.sub isC (fm_of hC)
  have hDc := hD.sub isC hCn hC
  have hFc := va_free hD hS X.2.2.2.2.2.1 isC hC
  have hRk : kR K = R0 := X.2.2.2.2.2.2
  refine va_calld (va_runV (As := As) (rest := rest) ⟨X.1, X.2.1, X.2.2.1, X.2.2.2.1, ts_of X L.all⟩ (hc H.size) (cwV na (ts_of X L.all) (good_self L.all) rfl rfl rfl ⟨rfl, L.2.2.2.2.2⟩ ⟨by rw [hRk]; exact hroom.1.1, by rw [hRk]; exact hroom.1.2⟩) ⟨preW.blind, (by obtain ⟨cell, g1, g2, g3⟩ := va_recv X.2.2.2.2.1.1 hPc hcl hrc; exact ⟨cell, g1, g2, g3⟩), fun U hU hW => ⟨rfl, by rw [hU], by rw [hU]; exact hPc, GK.moved hW X.2.2.2.2.1, hDc.weaken (fun _ _ _ _ => trivial)⟩⟩ rfl hna hl.1 rfl (lv_room hcat) d ⟨by rw [hRk]; exact hroom.2.1, by rw [hRk]; exact hroom.2.2⟩) hS (fun q _ h => hFc q h) hFc (fun r u t H1 locs1 ht hvm hw hB hz1 hk1 hS1 => ?_)
  obtain ⟨hP1, hD1⟩ := hB
  rw [ht] at hP1
  obtain ⟨hP2, hD2⟩ := va_join hP hD isC isR hC hR hRn hdis hk1 hFc hP1 hD1
  exact kk r u hw H1 locs1 ls hP2 hD2 hS1 hl
theorem s_callVV {y : MethodName} {b : ByteArray} {n na idx : Nat} {ret : Option FieldType} {a : Nat} {rm : Room} {As rest : List Value} {post : va_W → Prop} (X : SK K G R0 cc nL own) (L : LV own idx y b n ret na) (isC isR : List Nat) {wr wc : va_W} (hC : isC.map (fun i => ws[i]?) = wc.map some) (hR : isR.map (fun i => ws[i]?) = wr.map some) (hCn : va_nd isC = true) (hRn : va_nd isR = true) (hdis : ∀ i ∈ isR, i ∉ isC) (hc : CtV (kl K) G y b n ret rm (.ref a :: As) wc post) {ci N : Nat} {T : u_T} {fs : List Value} (hrc : wc[0]? = some (a, .inr (ci, fs))) (hcl : vwCl[ci]? = some (y.cls, T, N)) (d : decode cc pc = .ok (.invokevirtual idx, 3)) (hst : st = As.reverse ++ .ref a :: rest) (hna : As.length = na) (hcat : (rest.map fun v => v.category).sum ≤ 8) (hroom : (rm.frames + 1 ≤ R0.frames ∧ 8 + (n + 11) + rm.locals ≤ R0.locals) ∧ nc + rm.cells ≤ R0.cells ∧ ns + rm.slots ≤ R0.slots) (kk : ∀ (w9 : va_W), post w9 → SW K G nL (nc + rm.cells) (ns + rm.slots) (pc + 3) lv (rest) (wr ++ w9)) : SW K G nL nc ns pc lv st ws := by
  intro H locs ls hP hD hS hl
  subst hst
  have hPc := hP.sub isC (fm_of hC)
  have hDc := hD.sub isC hCn hC
  have hFc := va_free hD hS X.2.2.2.2.2.1 isC hC
  have hRk : kR K = R0 := X.2.2.2.2.2.2
  refine va_callv (va_runV (As := As) (rest := rest) ⟨X.1, X.2.1, X.2.2.1, X.2.2.2.1, ts_of X L.all⟩ (hc H.size) (cwV na (ts_of X L.all) (good_self L.all) rfl rfl rfl ⟨rfl, L.2.2.2.2.2⟩ ⟨by rw [hRk]; exact hroom.1.1, by rw [hRk]; exact hroom.1.2⟩) ⟨preW.blind, (by obtain ⟨cell, g1, g2, g3⟩ := va_recv X.2.2.2.2.1.1 hPc hcl hrc; exact ⟨cell, g1, g2, g3⟩), fun U hU hW => ⟨rfl, by rw [hU], by rw [hU]; exact hPc, GK.moved hW X.2.2.2.2.1, hDc.weaken (fun _ _ _ _ => trivial)⟩⟩ rfl hna hl.1 rfl (lv_room hcat) d ⟨by rw [hRk]; exact hroom.2.1, by rw [hRk]; exact hroom.2.2⟩) hS (fun q _ h => hFc q h) hFc (fun u t H1 locs1 ht hvm hw hB hz1 hk1 hS1 => ?_)
  obtain ⟨hP1, hD1⟩ := hB
  rw [ht] at hP1
  obtain ⟨hP2, hD2⟩ := va_join hP hD isC isR hC hR hRn hdis hk1 hFc hP1 hD1
  exact kk u hw H1 locs1 ls hP2 hD2 hS1 hl
theorem s_callIS {y : MethodName} {b : ByteArray} {n na idx : Nat} {ret : Option FieldType} {rm : Room} {As rest : List Value} {post : Int → va_W → Prop} (X : SK K G R0 cc nL own) (L : LSt own idx y b n ret na) (isC isR : List Nat) {wr wc : va_W} (hC : isC.map (fun i => ws[i]?) = wc.map some) (hR : isR.map (fun i => ws[i]?) = wr.map some) (hCn : va_nd isC = true) (hRn : va_nd isR = true) (hdis : ∀ i ∈ isR, i ∉ isC) (hc : CtI (kl K) G y b n ret rm As wc post) (d : decode cc pc = .ok (.invokestatic idx, 3)) (hst : st = As.reverse ++ rest) (hna : As.length = na) (hcat : (rest.map fun v => v.category).sum ≤ 8) (hroom : (rm.frames + 1 ≤ R0.frames ∧ 8 + (n + 11) + rm.locals ≤ R0.locals) ∧ nc + rm.cells ≤ R0.cells ∧ ns + rm.slots ≤ R0.slots) (kk : ∀ (z : Int) (w9 : va_W), post z w9 → SW K G nL (nc + rm.cells) (ns + rm.slots) (pc + 3) lv (.int (iI z) :: rest) (wr ++ w9)) : SW K G nL nc ns pc lv st ws := by
  intro H locs ls hP hD hS hl
  subst hst
  have hPc := hP.sub isC (fm_of hC)
  have hDc := hD.sub isC hCn hC
  have hFc := va_free hD hS X.2.2.2.2.2.1 isC hC
  have hRk : kR K = R0 := X.2.2.2.2.2.2
  refine va_calli (va_runS (As := As) (rest := rest) ⟨X.1, X.2.1, X.2.2.1, X.2.2.2.1, ts_of X L.all⟩ (hc H.size) (va_cwS na (ts_of X L.all) (good_self L.all) rfl rfl rfl L.2.2.2.2 ⟨by rw [hRk]; exact hroom.1.1, by rw [hRk]; exact hroom.1.2⟩) ⟨preW.blind, fun U hU hW => ⟨rfl, by rw [hU], by rw [hU]; exact hPc, GK.moved hW X.2.2.2.2.1, hDc.weaken (fun _ _ _ _ => trivial)⟩⟩ rfl hna hl.1 rfl (lv_room hcat) d ⟨by rw [hRk]; exact hroom.2.1, by rw [hRk]; exact hroom.2.2⟩) hS (fun q _ h => hFc q h) hFc (fun r u t H1 locs1 ht hvm hw hB hz1 hk1 hS1 => ?_)
  obtain ⟨z, rfl, hpost⟩ := hw
  obtain ⟨hP1, hD1⟩ := hB
  rw [ht] at hP1
  obtain ⟨hP2, hD2⟩ := va_join hP hD isC isR hC hR hRn hdis hk1 hFc hP1 hD1
  exact kk z u hpost H1 locs1 ls hP2 hD2 hS1 hl
theorem s_callLS {y : MethodName} {b : ByteArray} {n na idx : Nat} {ret : Option FieldType} {rm : Room} {As rest : List Value} {post : Int → va_W → Prop} (X : SK K G R0 cc nL own) (L : LSt own idx y b n ret na) (isC isR : List Nat) {wr wc : va_W} (hC : isC.map (fun i => ws[i]?) = wc.map some) (hR : isR.map (fun i => ws[i]?) = wr.map some) (hCn : va_nd isC = true) (hRn : va_nd isR = true) (hdis : ∀ i ∈ isR, i ∉ isC) (hc : CtL (kl K) G y b n ret rm As wc post) (d : decode cc pc = .ok (.invokestatic idx, 3)) (hst : st = As.reverse ++ rest) (hna : As.length = na) (hcat : (rest.map fun v => v.category).sum ≤ 8) (hroom : (rm.frames + 1 ≤ R0.frames ∧ 8 + (n + 11) + rm.locals ≤ R0.locals) ∧ nc + rm.cells ≤ R0.cells ∧ ns + rm.slots ≤ R0.slots) (kk : ∀ (z : Int) (w9 : va_W), post z w9 → SW K G nL (nc + rm.cells) (ns + rm.slots) (pc + 3) lv (.long (lI z) :: rest) (wr ++ w9)) : SW K G nL nc ns pc lv st ws := by
  intro H locs ls hP hD hS hl
  subst hst
  have hPc := hP.sub isC (fm_of hC)
  have hDc := hD.sub isC hCn hC
  have hFc := va_free hD hS X.2.2.2.2.2.1 isC hC
  have hRk : kR K = R0 := X.2.2.2.2.2.2
  refine va_calll (va_runS (As := As) (rest := rest) ⟨X.1, X.2.1, X.2.2.1, X.2.2.2.1, ts_of X L.all⟩ (hc H.size) (va_cwS na (ts_of X L.all) (good_self L.all) rfl rfl rfl L.2.2.2.2 ⟨by rw [hRk]; exact hroom.1.1, by rw [hRk]; exact hroom.1.2⟩) ⟨preW.blind, fun U hU hW => ⟨rfl, by rw [hU], by rw [hU]; exact hPc, GK.moved hW X.2.2.2.2.1, hDc.weaken (fun _ _ _ _ => trivial)⟩⟩ rfl hna hl.1 rfl (lv_room hcat) d ⟨by rw [hRk]; exact hroom.2.1, by rw [hRk]; exact hroom.2.2⟩) hS (fun q _ h => hFc q h) hFc (fun r u t H1 locs1 ht hvm hw hB hz1 hk1 hS1 => ?_)
  obtain ⟨z, rfl, hpost⟩ := hw
  obtain ⟨hP1, hD1⟩ := hB
  rw [ht] at hP1
  obtain ⟨hP2, hD2⟩ := va_join hP hD isC isR hC hR hRn hdis hk1 hFc hP1 hD1
  exact kk z u hpost H1 locs1 ls hP2 hD2 hS1 hl
theorem s_callDS {y : MethodName} {b : ByteArray} {n na idx : Nat} {ret : Option FieldType} {rm : Room} {As rest : List Value} {post : UInt64 → va_W → Prop} (X : SK K G R0 cc nL own) (L : LSt own idx y b n ret na) (isC isR : List Nat) {wr wc : va_W} (hC : isC.map (fun i => ws[i]?) = wc.map some) (hR : isR.map (fun i => ws[i]?) = wr.map some) (hCn : va_nd isC = true) (hRn : va_nd isR = true) (hdis : ∀ i ∈ isR, i ∉ isC) (hc : CtD (kl K) G y b n ret rm As wc post) (d : decode cc pc = .ok (.invokestatic idx, 3)) (hst : st = As.reverse ++ rest) (hna : As.length = na) (hcat : (rest.map fun v => v.category).sum ≤ 8) (hroom : (rm.frames + 1 ≤ R0.frames ∧ 8 + (n + 11) + rm.locals ≤ R0.locals) ∧ nc + rm.cells ≤ R0.cells ∧ ns + rm.slots ≤ R0.slots) (kk : ∀ (z : UInt64) (w9 : va_W), post z w9 → SW K G nL (nc + rm.cells) (ns + rm.slots) (pc + 3) lv (.double z :: rest) (wr ++ w9)) : SW K G nL nc ns pc lv st ws := by
  intro H locs ls hP hD hS hl
  subst hst
  have hPc := hP.sub isC (fm_of hC)
  have hDc := hD.sub isC hCn hC
  have hFc := va_free hD hS X.2.2.2.2.2.1 isC hC
  have hRk : kR K = R0 := X.2.2.2.2.2.2
  refine va_calld (va_runS (As := As) (rest := rest) ⟨X.1, X.2.1, X.2.2.1, X.2.2.2.1, ts_of X L.all⟩ (hc H.size) (va_cwS na (ts_of X L.all) (good_self L.all) rfl rfl rfl L.2.2.2.2 ⟨by rw [hRk]; exact hroom.1.1, by rw [hRk]; exact hroom.1.2⟩) ⟨preW.blind, fun U hU hW => ⟨rfl, by rw [hU], by rw [hU]; exact hPc, GK.moved hW X.2.2.2.2.1, hDc.weaken (fun _ _ _ _ => trivial)⟩⟩ rfl hna hl.1 rfl (lv_room hcat) d ⟨by rw [hRk]; exact hroom.2.1, by rw [hRk]; exact hroom.2.2⟩) hS (fun q _ h => hFc q h) hFc (fun r u t H1 locs1 ht hvm hw hB hz1 hk1 hS1 => ?_)
  obtain ⟨hP1, hD1⟩ := hB
  rw [ht] at hP1
  obtain ⟨hP2, hD2⟩ := va_join hP hD isC isR hC hR hRn hdis hk1 hFc hP1 hD1
  exact kk r u hw H1 locs1 ls hP2 hD2 hS1 hl
theorem s_callVS {y : MethodName} {b : ByteArray} {n na idx : Nat} {ret : Option FieldType} {rm : Room} {As rest : List Value} {post : va_W → Prop} (X : SK K G R0 cc nL own) (L : LSt own idx y b n ret na) (isC isR : List Nat) {wr wc : va_W} (hC : isC.map (fun i => ws[i]?) = wc.map some) (hR : isR.map (fun i => ws[i]?) = wr.map some) (hCn : va_nd isC = true) (hRn : va_nd isR = true) (hdis : ∀ i ∈ isR, i ∉ isC) (hc : CtV (kl K) G y b n ret rm As wc post) (d : decode cc pc = .ok (.invokestatic idx, 3)) (hst : st = As.reverse ++ rest) (hna : As.length = na) (hcat : (rest.map fun v => v.category).sum ≤ 8) (hroom : (rm.frames + 1 ≤ R0.frames ∧ 8 + (n + 11) + rm.locals ≤ R0.locals) ∧ nc + rm.cells ≤ R0.cells ∧ ns + rm.slots ≤ R0.slots) (kk : ∀ (w9 : va_W), post w9 → SW K G nL (nc + rm.cells) (ns + rm.slots) (pc + 3) lv (rest) (wr ++ w9)) : SW K G nL nc ns pc lv st ws := by
  intro H locs ls hP hD hS hl
  subst hst
  have hPc := hP.sub isC (fm_of hC)
  have hDc := hD.sub isC hCn hC
  have hFc := va_free hD hS X.2.2.2.2.2.1 isC hC
  have hRk : kR K = R0 := X.2.2.2.2.2.2
  refine va_callv (va_runS (As := As) (rest := rest) ⟨X.1, X.2.1, X.2.2.1, X.2.2.2.1, ts_of X L.all⟩ (hc H.size) (va_cwS na (ts_of X L.all) (good_self L.all) rfl rfl rfl L.2.2.2.2 ⟨by rw [hRk]; exact hroom.1.1, by rw [hRk]; exact hroom.1.2⟩) ⟨preW.blind, fun U hU hW => ⟨rfl, by rw [hU], by rw [hU]; exact hPc, GK.moved hW X.2.2.2.2.1, hDc.weaken (fun _ _ _ _ => trivial)⟩⟩ rfl hna hl.1 rfl (lv_room hcat) d ⟨by rw [hRk]; exact hroom.2.1, by rw [hRk]; exact hroom.2.2⟩) hS (fun q _ h => hFc q h) hFc (fun u t H1 locs1 ht hvm hw hB hz1 hk1 hS1 => ?_)
  obtain ⟨hP1, hD1⟩ := hB
  rw [ht] at hP1
  obtain ⟨hP2, hD2⟩ := va_join hP hD isC isR hC hR hRn hdis hk1 hFc hP1 hD1
  exact kk u hw H1 locs1 ls hP2 hD2 hS1 hl
theorem s_callVI {y : MethodName} {b : ByteArray} {n na idx : Nat} {a : Nat} {rm : Room} {As rest : List Value} {post : va_W → Prop} (X : SK K G R0 cc nL own) (L : LI own idx y b n na) (isC isR : List Nat) {wr wc : va_W} (hC : isC.map (fun i => ws[i]?) = wc.map some) (hR : isR.map (fun i => ws[i]?) = wr.map some) (hCn : va_nd isC = true) (hRn : va_nd isR = true) (hdis : ∀ i ∈ isR, i ∉ isC) (hc : CtV (kl K) G y b n none rm (.ref a :: As) wc post) (hin1 : y.name = "<init>") (d : decode cc pc = .ok (.invokespecial idx, 3)) (hst : st = As.reverse ++ .ref a :: rest) (hna : As.length = na) (hcat : (rest.map fun v => v.category).sum ≤ 8) (hroom : (rm.frames + 1 ≤ R0.frames ∧ 8 + (n + 11) + rm.locals ≤ R0.locals) ∧ nc + rm.cells ≤ R0.cells ∧ ns + rm.slots ≤ R0.slots) (kk : ∀ (w9 : va_W), post w9 → SW K G nL (nc + rm.cells) (ns + rm.slots) (pc + 3) lv (rest) (wr ++ w9)) : SW K G nL nc ns pc lv st ws := by
  intro H locs ls hP hD hS hl
  subst hst
  have hPc := hP.sub isC (fm_of hC)
  have hDc := hD.sub isC hCn hC
  have hFc := va_free hD hS X.2.2.2.2.2.1 isC hC
  have hRk : kR K = R0 := X.2.2.2.2.2.2
  refine va_callv (va_runI (As := As) (rest := rest) ⟨X.1, X.2.1, X.2.2.1, X.2.2.2.1, ts_of X (one_all L.2.2.2.1)⟩ (hc H.size) (cwI na (ts_of X (one_all L.2.2.2.1)) (good_self (one_all L.2.2.2.1)) rfl rfl rfl (X.tb L.2.2.1 _) (X.tb L.1 _) (X.tb L.2.1 _) hin1 L.2.2.2.2 ⟨by rw [hRk]; exact hroom.1.1, by rw [hRk]; exact hroom.1.2⟩) ⟨preW.blind, fun U hU hW => ⟨rfl, by rw [hU], by rw [hU]; exact hPc, GK.moved hW X.2.2.2.2.1, hDc.weaken (fun _ _ _ _ => trivial)⟩⟩ rfl hna hl.1 rfl (lv_room hcat) d ⟨by rw [hRk]; exact hroom.2.1, by rw [hRk]; exact hroom.2.2⟩) hS (fun q _ h => hFc q h) hFc (fun u t H1 locs1 ht hvm hw hB hz1 hk1 hS1 => ?_)
  obtain ⟨hP1, hD1⟩ := hB
  rw [ht] at hP1
  obtain ⟨hP2, hD2⟩ := va_join hP hD isC isR hC hR hRn hdis hk1 hFc hP1 hD1
  exact kk u hw H1 locs1 ls hP2 hD2 hS1 hl
theorem s_callISN {y : MethodName} {b : ByteArray} {n na idx : Nat} {ret : Option FieldType} {host : String} {rm : Room} {As rest : List Value} {post : Int → va_W → Prop} (X : SK K G R0 cc nL own) (L : LSN own idx y host b n ret na) (isC isR : List Nat) {wr wc : va_W} (hC : isC.map (fun i => ws[i]?) = wc.map some) (hR : isR.map (fun i => ws[i]?) = wr.map some) (hCn : va_nd isC = true) (hRn : va_nd isR = true) (hdis : ∀ i ∈ isR, i ∉ isC) (hc : CtI (kl K) G y b n ret rm As wc post) (d : decode cc pc = .ok (.invokestatic idx, 3)) (hst : st = As.reverse ++ rest) (hna : As.length = na) (hcat : (rest.map fun v => v.category).sum ≤ 8) (hroom : (rm.frames + 1 ≤ R0.frames ∧ 8 + (n + 11) + rm.locals ≤ R0.locals) ∧ nc + rm.cells ≤ R0.cells ∧ ns + rm.slots ≤ R0.slots) (kk : ∀ (z : Int) (w9 : va_W), post z w9 → SW K G nL (nc + rm.cells) (ns + rm.slots) (pc + 3) lv (.int (iI z) :: rest) (wr ++ w9)) : SW K G nL nc ns pc lv st ws := by
  intro H locs ls hP hD hS hl
  subst hst
  have hPc := hP.sub isC (fm_of hC)
  have hDc := hD.sub isC hCn hC
  have hFc := va_free hD hS X.2.2.2.2.2.1 isC hC
  have hRk : kR K = R0 := X.2.2.2.2.2.2
  refine va_calli (va_runSN (As := As) (rest := rest) ⟨X.1, X.2.1, X.2.2.1, X.2.2.2.1, ts_of X (one_all L.2.2.2.1)⟩ (hc H.size) ⟨va_cnB na (ts_of X (one_all L.2.2.2.1)) (good_self (one_all L.2.2.2.1)) rfl rfl rfl (X.2.2.2.2.1.2.2 _ L.1) (X.tb L.2.2.1 _) L.2.2.2.2 ⟨by rw [hRk]; exact hroom.1.1, by rw [hRk]; exact hroom.1.2⟩, X.tb L.2.1 _, trivial⟩ ⟨preW.blind, fun U hU hW => ⟨rfl, by rw [hU], by rw [hU]; exact hPc, GK.moved hW X.2.2.2.2.1, hDc.weaken (fun _ _ _ _ => trivial)⟩⟩ rfl hna hl.1 rfl (lv_room hcat) d ⟨by rw [hRk]; exact hroom.2.1, by rw [hRk]; exact hroom.2.2⟩) hS (fun q _ h => hFc q h) hFc (fun r u t H1 locs1 ht hvm hw hB hz1 hk1 hS1 => ?_)
  obtain ⟨z, rfl, hpost⟩ := hw
  obtain ⟨hP1, hD1⟩ := hB
  rw [ht] at hP1
  obtain ⟨hP2, hD2⟩ := va_join hP hD isC isR hC hR hRn hdis hk1 hFc hP1 hD1
  exact kk z u hpost H1 locs1 ls hP2 hD2 hS1 hl
theorem s_callLSN {y : MethodName} {b : ByteArray} {n na idx : Nat} {ret : Option FieldType} {host : String} {rm : Room} {As rest : List Value} {post : Int → va_W → Prop} (X : SK K G R0 cc nL own) (L : LSN own idx y host b n ret na) (isC isR : List Nat) {wr wc : va_W} (hC : isC.map (fun i => ws[i]?) = wc.map some) (hR : isR.map (fun i => ws[i]?) = wr.map some) (hCn : va_nd isC = true) (hRn : va_nd isR = true) (hdis : ∀ i ∈ isR, i ∉ isC) (hc : CtL (kl K) G y b n ret rm As wc post) (d : decode cc pc = .ok (.invokestatic idx, 3)) (hst : st = As.reverse ++ rest) (hna : As.length = na) (hcat : (rest.map fun v => v.category).sum ≤ 8) (hroom : (rm.frames + 1 ≤ R0.frames ∧ 8 + (n + 11) + rm.locals ≤ R0.locals) ∧ nc + rm.cells ≤ R0.cells ∧ ns + rm.slots ≤ R0.slots) (kk : ∀ (z : Int) (w9 : va_W), post z w9 → SW K G nL (nc + rm.cells) (ns + rm.slots) (pc + 3) lv (.long (lI z) :: rest) (wr ++ w9)) : SW K G nL nc ns pc lv st ws := by
  intro H locs ls hP hD hS hl
  subst hst
  have hPc := hP.sub isC (fm_of hC)
  have hDc := hD.sub isC hCn hC
  have hFc := va_free hD hS X.2.2.2.2.2.1 isC hC
  have hRk : kR K = R0 := X.2.2.2.2.2.2
  refine va_calll (va_runSN (As := As) (rest := rest) ⟨X.1, X.2.1, X.2.2.1, X.2.2.2.1, ts_of X (one_all L.2.2.2.1)⟩ (hc H.size) ⟨va_cnB na (ts_of X (one_all L.2.2.2.1)) (good_self (one_all L.2.2.2.1)) rfl rfl rfl (X.2.2.2.2.1.2.2 _ L.1) (X.tb L.2.2.1 _) L.2.2.2.2 ⟨by rw [hRk]; exact hroom.1.1, by rw [hRk]; exact hroom.1.2⟩, X.tb L.2.1 _, trivial⟩ ⟨preW.blind, fun U hU hW => ⟨rfl, by rw [hU], by rw [hU]; exact hPc, GK.moved hW X.2.2.2.2.1, hDc.weaken (fun _ _ _ _ => trivial)⟩⟩ rfl hna hl.1 rfl (lv_room hcat) d ⟨by rw [hRk]; exact hroom.2.1, by rw [hRk]; exact hroom.2.2⟩) hS (fun q _ h => hFc q h) hFc (fun r u t H1 locs1 ht hvm hw hB hz1 hk1 hS1 => ?_)
  obtain ⟨z, rfl, hpost⟩ := hw
  obtain ⟨hP1, hD1⟩ := hB
  rw [ht] at hP1
  obtain ⟨hP2, hD2⟩ := va_join hP hD isC isR hC hR hRn hdis hk1 hFc hP1 hD1
  exact kk z u hpost H1 locs1 ls hP2 hD2 hS1 hl
theorem s_callDSN {y : MethodName} {b : ByteArray} {n na idx : Nat} {ret : Option FieldType} {host : String} {rm : Room} {As rest : List Value} {post : UInt64 → va_W → Prop} (X : SK K G R0 cc nL own) (L : LSN own idx y host b n ret na) (isC isR : List Nat) {wr wc : va_W} (hC : isC.map (fun i => ws[i]?) = wc.map some) (hR : isR.map (fun i => ws[i]?) = wr.map some) (hCn : va_nd isC = true) (hRn : va_nd isR = true) (hdis : ∀ i ∈ isR, i ∉ isC) (hc : CtD (kl K) G y b n ret rm As wc post) (d : decode cc pc = .ok (.invokestatic idx, 3)) (hst : st = As.reverse ++ rest) (hna : As.length = na) (hcat : (rest.map fun v => v.category).sum ≤ 8) (hroom : (rm.frames + 1 ≤ R0.frames ∧ 8 + (n + 11) + rm.locals ≤ R0.locals) ∧ nc + rm.cells ≤ R0.cells ∧ ns + rm.slots ≤ R0.slots) (kk : ∀ (z : UInt64) (w9 : va_W), post z w9 → SW K G nL (nc + rm.cells) (ns + rm.slots) (pc + 3) lv (.double z :: rest) (wr ++ w9)) : SW K G nL nc ns pc lv st ws := by
  intro H locs ls hP hD hS hl
  subst hst
  have hPc := hP.sub isC (fm_of hC)
  have hDc := hD.sub isC hCn hC
  have hFc := va_free hD hS X.2.2.2.2.2.1 isC hC
  have hRk : kR K = R0 := X.2.2.2.2.2.2
  refine va_calld (va_runSN (As := As) (rest := rest) ⟨X.1, X.2.1, X.2.2.1, X.2.2.2.1, ts_of X (one_all L.2.2.2.1)⟩ (hc H.size) ⟨va_cnB na (ts_of X (one_all L.2.2.2.1)) (good_self (one_all L.2.2.2.1)) rfl rfl rfl (X.2.2.2.2.1.2.2 _ L.1) (X.tb L.2.2.1 _) L.2.2.2.2 ⟨by rw [hRk]; exact hroom.1.1, by rw [hRk]; exact hroom.1.2⟩, X.tb L.2.1 _, trivial⟩ ⟨preW.blind, fun U hU hW => ⟨rfl, by rw [hU], by rw [hU]; exact hPc, GK.moved hW X.2.2.2.2.1, hDc.weaken (fun _ _ _ _ => trivial)⟩⟩ rfl hna hl.1 rfl (lv_room hcat) d ⟨by rw [hRk]; exact hroom.2.1, by rw [hRk]; exact hroom.2.2⟩) hS (fun q _ h => hFc q h) hFc (fun r u t H1 locs1 ht hvm hw hB hz1 hk1 hS1 => ?_)
  obtain ⟨hP1, hD1⟩ := hB
  rw [ht] at hP1
  obtain ⟨hP2, hD2⟩ := va_join hP hD isC isR hC hR hRn hdis hk1 hFc hP1 hD1
  exact kk r u hw H1 locs1 ls hP2 hD2 hS1 hl
theorem s_callVSN {y : MethodName} {b : ByteArray} {n na idx : Nat} {ret : Option FieldType} {host : String} {rm : Room} {As rest : List Value} {post : va_W → Prop} (X : SK K G R0 cc nL own) (L : LSN own idx y host b n ret na) (isC isR : List Nat) {wr wc : va_W} (hC : isC.map (fun i => ws[i]?) = wc.map some) (hR : isR.map (fun i => ws[i]?) = wr.map some) (hCn : va_nd isC = true) (hRn : va_nd isR = true) (hdis : ∀ i ∈ isR, i ∉ isC) (hc : CtV (kl K) G y b n ret rm As wc post) (d : decode cc pc = .ok (.invokestatic idx, 3)) (hst : st = As.reverse ++ rest) (hna : As.length = na) (hcat : (rest.map fun v => v.category).sum ≤ 8) (hroom : (rm.frames + 1 ≤ R0.frames ∧ 8 + (n + 11) + rm.locals ≤ R0.locals) ∧ nc + rm.cells ≤ R0.cells ∧ ns + rm.slots ≤ R0.slots) (kk : ∀ (w9 : va_W), post w9 → SW K G nL (nc + rm.cells) (ns + rm.slots) (pc + 3) lv (rest) (wr ++ w9)) : SW K G nL nc ns pc lv st ws := by
  intro H locs ls hP hD hS hl
  subst hst
  have hPc := hP.sub isC (fm_of hC)
  have hDc := hD.sub isC hCn hC
  have hFc := va_free hD hS X.2.2.2.2.2.1 isC hC
  have hRk : kR K = R0 := X.2.2.2.2.2.2
  refine va_callv (va_runSN (As := As) (rest := rest) ⟨X.1, X.2.1, X.2.2.1, X.2.2.2.1, ts_of X (one_all L.2.2.2.1)⟩ (hc H.size) ⟨va_cnB na (ts_of X (one_all L.2.2.2.1)) (good_self (one_all L.2.2.2.1)) rfl rfl rfl (X.2.2.2.2.1.2.2 _ L.1) (X.tb L.2.2.1 _) L.2.2.2.2 ⟨by rw [hRk]; exact hroom.1.1, by rw [hRk]; exact hroom.1.2⟩, X.tb L.2.1 _, trivial⟩ ⟨preW.blind, fun U hU hW => ⟨rfl, by rw [hU], by rw [hU]; exact hPc, GK.moved hW X.2.2.2.2.1, hDc.weaken (fun _ _ _ _ => trivial)⟩⟩ rfl hna hl.1 rfl (lv_room hcat) d ⟨by rw [hRk]; exact hroom.2.1, by rw [hRk]; exact hroom.2.2⟩) hS (fun q _ h => hFc q h) hFc (fun u t H1 locs1 ht hvm hw hB hz1 hk1 hS1 => ?_)
  obtain ⟨hP1, hD1⟩ := hB
  rw [ht] at hP1
  obtain ⟨hP2, hD2⟩ := va_join hP hD isC isR hC hR hRn hdis hk1 hFc hP1 hD1
  exact kk u hw H1 locs1 ls hP2 hD2 hS1 hl
theorem s_callVIN {y : MethodName} {b : ByteArray} {n na idx : Nat} {a : Nat} {host : String} {rm : Room} {As rest : List Value} {post : va_W → Prop} (X : SK K G R0 cc nL own) (L : LIN own idx y host b n na) (isC isR : List Nat) {wr wc : va_W} (hC : isC.map (fun i => ws[i]?) = wc.map some) (hR : isR.map (fun i => ws[i]?) = wr.map some) (hCn : va_nd isC = true) (hRn : va_nd isR = true) (hdis : ∀ i ∈ isR, i ∉ isC) (hc : CtV (kl K) G y b n none rm (.ref a :: As) wc post) (hin1 : y.name = "<init>") (d : decode cc pc = .ok (.invokespecial idx, 3)) (hst : st = As.reverse ++ .ref a :: rest) (hna : As.length = na) (hcat : (rest.map fun v => v.category).sum ≤ 8) (hroom : (rm.frames + 1 ≤ R0.frames ∧ 8 + (n + 11) + rm.locals ≤ R0.locals) ∧ nc + rm.cells ≤ R0.cells ∧ ns + rm.slots ≤ R0.slots) (kk : ∀ (w9 : va_W), post w9 → SW K G nL (nc + rm.cells) (ns + rm.slots) (pc + 3) lv (rest) (wr ++ w9)) : SW K G nL nc ns pc lv st ws := by
  intro H locs ls hP hD hS hl
  subst hst
  have hPc := hP.sub isC (fm_of hC)
  have hDc := hD.sub isC hCn hC
  have hFc := va_free hD hS X.2.2.2.2.2.1 isC hC
  have hRk : kR K = R0 := X.2.2.2.2.2.2
  refine va_callv (va_runIN (As := As) (rest := rest) ⟨X.1, X.2.1, X.2.2.1, X.2.2.2.1, ts_of X (one_all L.2.2.2.1)⟩ (hc H.size) ⟨va_cnB na (ts_of X (one_all L.2.2.2.1)) (good_self (one_all L.2.2.2.1)) rfl rfl rfl (X.2.2.2.2.1.2.2 _ L.1) (X.tb L.2.2.1 _) L.2.2.2.2 ⟨by rw [hRk]; exact hroom.1.1, by rw [hRk]; exact hroom.1.2⟩, hin1, X.tb L.2.1 _⟩ ⟨preW.blind, fun U hU hW => ⟨rfl, by rw [hU], by rw [hU]; exact hPc, GK.moved hW X.2.2.2.2.1, hDc.weaken (fun _ _ _ _ => trivial)⟩⟩ rfl hna hl.1 rfl (lv_room hcat) d ⟨by rw [hRk]; exact hroom.2.1, by rw [hRk]; exact hroom.2.2⟩) hS (fun q _ h => hFc q h) hFc (fun u t H1 locs1 ht hvm hw hB hz1 hk1 hS1 => ?_)
  obtain ⟨hP1, hD1⟩ := hB
  rw [ht] at hP1
  obtain ⟨hP2, hD2⟩ := va_join hP hD isC isR hC hR hRn hdis hk1 hFc hP1 hD1
  exact kk u hw H1 locs1 ls hP2 hD2 hS1 hl
end SCALL
end
section
/-! closed facts: the links of the pool entries that the code names; by the words' places in lw_tbl (written by wip/whole/mkwords.py) -/
theorem tg143 : TG (u_lay RX0 TX0 0) := ⟨List.mem_of_getElem? (i := 143) (by decide +kernel), by decide +kernel⟩
theorem us_X0 : ∀ w ∈ u_ws RX0 TX0 1, TG w := by
  intro w hw
  obtain ⟨k, hk, rfl⟩ := List.mem_map.mp hw
  have hk := List.mem_range.mp hk
  match k, hk with
  | 0, _ => exact tg143
  | k + 1, h => exact absurd h (by omega)
theorem tg102 : TG (u_lay RX1 TX1 0) := ⟨List.mem_of_getElem? (i := 102) (by decide +kernel), by decide +kernel⟩
theorem tg104 : TG (u_lay RX1 TX1 1) := ⟨List.mem_of_getElem? (i := 104) (by decide +kernel), by decide +kernel⟩
theorem tg106 : TG (u_lay RX1 TX1 2) := ⟨List.mem_of_getElem? (i := 106) (by decide +kernel), by decide +kernel⟩
theorem tg108 : TG (u_lay RX1 TX1 3) := ⟨List.mem_of_getElem? (i := 108) (by decide +kernel), by decide +kernel⟩
theorem us_X1 : ∀ w ∈ u_ws RX1 TX1 4, TG w := by
  intro w hw
  obtain ⟨k, hk, rfl⟩ := List.mem_map.mp hw
  have hk := List.mem_range.mp hk
  match k, hk with
  | 0, _ => exact tg102
  | 1, _ => exact tg104
  | 2, _ => exact tg106
  | 3, _ => exact tg108
  | k + 4, h => exact absurd h (by omega)
theorem tg133 : TG (u_lay RX2 TX2 0) := ⟨List.mem_of_getElem? (i := 133) (by decide +kernel), by decide +kernel⟩
theorem us_X2 : ∀ w ∈ u_ws RX2 TX2 1, TG w := by
  intro w hw
  obtain ⟨k, hk, rfl⟩ := List.mem_map.mp hw
  have hk := List.mem_range.mp hk
  match k, hk with
  | 0, _ => exact tg133
  | k + 1, h => exact absurd h (by omega)
theorem tg177 : TG (u_lay RX3 TX3 0) := ⟨List.mem_of_getElem? (i := 177) (by decide +kernel), by decide +kernel⟩
theorem tg179 : TG (u_lay RX3 TX3 1) := ⟨List.mem_of_getElem? (i := 179) (by decide +kernel), by decide +kernel⟩
theorem tg181 : TG (u_lay RX3 TX3 2) := ⟨List.mem_of_getElem? (i := 181) (by decide +kernel), by decide +kernel⟩
theorem tg183 : TG (u_lay RX3 TX3 3) := ⟨List.mem_of_getElem? (i := 183) (by decide +kernel), by decide +kernel⟩
theorem tg185 : TG (u_lay RX3 TX3 4) := ⟨List.mem_of_getElem? (i := 185) (by decide +kernel), by decide +kernel⟩
theorem tg187 : TG (u_lay RX3 TX3 5) := ⟨List.mem_of_getElem? (i := 187) (by decide +kernel), by decide +kernel⟩
theorem tg189 : TG (u_lay RX3 TX3 6) := ⟨List.mem_of_getElem? (i := 189) (by decide +kernel), by decide +kernel⟩
theorem tg191 : TG (u_lay RX3 TX3 7) := ⟨List.mem_of_getElem? (i := 191) (by decide +kernel), by decide +kernel⟩
theorem tg193 : TG (u_lay RX3 TX3 8) := ⟨List.mem_of_getElem? (i := 193) (by decide +kernel), by decide +kernel⟩
theorem tg195 : TG (u_lay RX3 TX3 9) := ⟨List.mem_of_getElem? (i := 195) (by decide +kernel), by decide +kernel⟩
theorem us_X3 : ∀ w ∈ u_ws RX3 TX3 10, TG w := by
  intro w hw
  obtain ⟨k, hk, rfl⟩ := List.mem_map.mp hw
  have hk := List.mem_range.mp hk
  match k, hk with
  | 0, _ => exact tg177
  | 1, _ => exact tg179
  | 2, _ => exact tg181
  | 3, _ => exact tg183
  | 4, _ => exact tg185
  | 5, _ => exact tg187
  | 6, _ => exact tg189
  | 7, _ => exact tg191
  | 8, _ => exact tg193
  | 9, _ => exact tg195
  | k + 10, h => exact absurd h (by omega)
theorem tg121 : TG (u_lay RX4 TX4 0) := ⟨List.mem_of_getElem? (i := 121) (by decide +kernel), by decide +kernel⟩
theorem tg123 : TG (u_lay RX4 TX4 1) := ⟨List.mem_of_getElem? (i := 123) (by decide +kernel), by decide +kernel⟩
theorem us_X4 : ∀ w ∈ u_ws RX4 TX4 2, TG w := by
  intro w hw
  obtain ⟨k, hk, rfl⟩ := List.mem_map.mp hw
  have hk := List.mem_range.mp hk
  match k, hk with
  | 0, _ => exact tg121
  | 1, _ => exact tg123
  | k + 2, h => exact absurd h (by omega)
theorem tg209 : TG (u_lay RX5 TX5 0) := ⟨List.mem_of_getElem? (i := 209) (by decide +kernel), by decide +kernel⟩
theorem tg211 : TG (u_lay RX5 TX5 1) := ⟨List.mem_of_getElem? (i := 211) (by decide +kernel), by decide +kernel⟩
theorem tg213 : TG (u_lay RX5 TX5 2) := ⟨List.mem_of_getElem? (i := 213) (by decide +kernel), by decide +kernel⟩
theorem tg215 : TG (u_lay RX5 TX5 3) := ⟨List.mem_of_getElem? (i := 215) (by decide +kernel), by decide +kernel⟩
theorem tg217 : TG (u_lay RX5 TX5 4) := ⟨List.mem_of_getElem? (i := 217) (by decide +kernel), by decide +kernel⟩
theorem tg219 : TG (u_lay RX5 TX5 5) := ⟨List.mem_of_getElem? (i := 219) (by decide +kernel), by decide +kernel⟩
theorem tg221 : TG (u_lay RX5 TX5 6) := ⟨List.mem_of_getElem? (i := 221) (by decide +kernel), by decide +kernel⟩
theorem tg223 : TG (u_lay RX5 TX5 7) := ⟨List.mem_of_getElem? (i := 223) (by decide +kernel), by decide +kernel⟩
theorem tg225 : TG (u_lay RX5 TX5 8) := ⟨List.mem_of_getElem? (i := 225) (by decide +kernel), by decide +kernel⟩
theorem us_X5 : ∀ w ∈ u_ws RX5 TX5 9, TG w := by
  intro w hw
  obtain ⟨k, hk, rfl⟩ := List.mem_map.mp hw
  have hk := List.mem_range.mp hk
  match k, hk with
  | 0, _ => exact tg209
  | 1, _ => exact tg211
  | 2, _ => exact tg213
  | 3, _ => exact tg215
  | 4, _ => exact tg217
  | 5, _ => exact tg219
  | 6, _ => exact tg221
  | 7, _ => exact tg223
  | 8, _ => exact tg225
  | k + 9, h => exact absurd h (by omega)
theorem tg748 : TG (u_lay RX6 TX6 0) := ⟨List.mem_of_getElem? (i := 748) (by decide +kernel), by decide +kernel⟩
theorem tg750 : TG (u_lay RX6 TX6 1) := ⟨List.mem_of_getElem? (i := 750) (by decide +kernel), by decide +kernel⟩
theorem tg752 : TG (u_lay RX6 TX6 2) := ⟨List.mem_of_getElem? (i := 752) (by decide +kernel), by decide +kernel⟩
theorem tg754 : TG (u_lay RX6 TX6 3) := ⟨List.mem_of_getElem? (i := 754) (by decide +kernel), by decide +kernel⟩
theorem tg756 : TG (u_lay RX6 TX6 4) := ⟨List.mem_of_getElem? (i := 756) (by decide +kernel), by decide +kernel⟩
theorem tg758 : TG (u_lay RX6 TX6 5) := ⟨List.mem_of_getElem? (i := 758) (by decide +kernel), by decide +kernel⟩
theorem tg760 : TG (u_lay RX6 TX6 6) := ⟨List.mem_of_getElem? (i := 760) (by decide +kernel), by decide +kernel⟩
theorem tg762 : TG (u_lay RX6 TX6 7) := ⟨List.mem_of_getElem? (i := 762) (by decide +kernel), by decide +kernel⟩
theorem tg764 : TG (u_lay RX6 TX6 8) := ⟨List.mem_of_getElem? (i := 764) (by decide +kernel), by decide +kernel⟩
theorem tg766 : TG (u_lay RX6 TX6 9) := ⟨List.mem_of_getElem? (i := 766) (by decide +kernel), by decide +kernel⟩
theorem tg768 : TG (u_lay RX6 TX6 10) := ⟨List.mem_of_getElem? (i := 768) (by decide +kernel), by decide +kernel⟩
theorem tg770 : TG (u_lay RX6 TX6 11) := ⟨List.mem_of_getElem? (i := 770) (by decide +kernel), by decide +kernel⟩
theorem tg772 : TG (u_lay RX6 TX6 12) := ⟨List.mem_of_getElem? (i := 772) (by decide +kernel), by decide +kernel⟩
theorem tg774 : TG (u_lay RX6 TX6 13) := ⟨List.mem_of_getElem? (i := 774) (by decide +kernel), by decide +kernel⟩
theorem tg776 : TG (u_lay RX6 TX6 14) := ⟨List.mem_of_getElem? (i := 776) (by decide +kernel), by decide +kernel⟩
theorem tg778 : TG (u_lay RX6 TX6 15) := ⟨List.mem_of_getElem? (i := 778) (by decide +kernel), by decide +kernel⟩
theorem tg780 : TG (u_lay RX6 TX6 16) := ⟨List.mem_of_getElem? (i := 780) (by decide +kernel), by decide +kernel⟩
theorem tg782 : TG (u_lay RX6 TX6 17) := ⟨List.mem_of_getElem? (i := 782) (by decide +kernel), by decide +kernel⟩
theorem tg784 : TG (u_lay RX6 TX6 18) := ⟨List.mem_of_getElem? (i := 784) (by decide +kernel), by decide +kernel⟩
theorem tg786 : TG (u_lay RX6 TX6 19) := ⟨List.mem_of_getElem? (i := 786) (by decide +kernel), by decide +kernel⟩
theorem tg788 : TG (u_lay RX6 TX6 20) := ⟨List.mem_of_getElem? (i := 788) (by decide +kernel), by decide +kernel⟩
theorem tg790 : TG (u_lay RX6 TX6 21) := ⟨List.mem_of_getElem? (i := 790) (by decide +kernel), by decide +kernel⟩
theorem tg792 : TG (u_lay RX6 TX6 22) := ⟨List.mem_of_getElem? (i := 792) (by decide +kernel), by decide +kernel⟩
theorem tg794 : TG (u_lay RX6 TX6 23) := ⟨List.mem_of_getElem? (i := 794) (by decide +kernel), by decide +kernel⟩
theorem tg796 : TG (u_lay RX6 TX6 24) := ⟨List.mem_of_getElem? (i := 796) (by decide +kernel), by decide +kernel⟩
theorem tg798 : TG (u_lay RX6 TX6 25) := ⟨List.mem_of_getElem? (i := 798) (by decide +kernel), by decide +kernel⟩
theorem tg800 : TG (u_lay RX6 TX6 26) := ⟨List.mem_of_getElem? (i := 800) (by decide +kernel), by decide +kernel⟩
theorem tg802 : TG (u_lay RX6 TX6 27) := ⟨List.mem_of_getElem? (i := 802) (by decide +kernel), by decide +kernel⟩
theorem tg804 : TG (u_lay RX6 TX6 28) := ⟨List.mem_of_getElem? (i := 804) (by decide +kernel), by decide +kernel⟩
theorem tg806 : TG (u_lay RX6 TX6 29) := ⟨List.mem_of_getElem? (i := 806) (by decide +kernel), by decide +kernel⟩
theorem us_X6 : ∀ w ∈ u_ws RX6 TX6 30, TG w := by
  intro w hw
  obtain ⟨k, hk, rfl⟩ := List.mem_map.mp hw
  have hk := List.mem_range.mp hk
  match k, hk with
  | 0, _ => exact tg748
  | 1, _ => exact tg750
  | 2, _ => exact tg752
  | 3, _ => exact tg754
  | 4, _ => exact tg756
  | 5, _ => exact tg758
  | 6, _ => exact tg760
  | 7, _ => exact tg762
  | 8, _ => exact tg764
  | 9, _ => exact tg766
  | 10, _ => exact tg768
  | 11, _ => exact tg770
  | 12, _ => exact tg772
  | 13, _ => exact tg774
  | 14, _ => exact tg776
  | 15, _ => exact tg778
  | 16, _ => exact tg780
  | 17, _ => exact tg782
  | 18, _ => exact tg784
  | 19, _ => exact tg786
  | 20, _ => exact tg788
  | 21, _ => exact tg790
  | 22, _ => exact tg792
  | 23, _ => exact tg794
  | 24, _ => exact tg796
  | 25, _ => exact tg798
  | 26, _ => exact tg800
  | 27, _ => exact tg802
  | 28, _ => exact tg804
  | 29, _ => exact tg806
  | k + 30, h => exact absurd h (by omega)
theorem tg561 : TG (.code yX5_add cX5_add 2 (some .int)) := ⟨List.mem_of_getElem? (i := 561) (by decide +kernel), by decide +kernel⟩
theorem tg62 : TG (.initialized yX5_add.cls) := ⟨List.mem_of_getElem? (i := 62) (by decide +kernel), by decide +kernel⟩
theorem tg558 : TG (.methodLink RL 7 yX5_add) := ⟨List.mem_of_getElem? (i := 558) (by decide +kernel), by decide +kernel⟩
theorem tg559 : TG (.instanceMethod yX5_add) := ⟨List.mem_of_getElem? (i := 559) (by decide +kernel), by decide +kernel⟩
theorem tg560 : TG (.selects yX5_add.cls yX5_add yX5_add) := ⟨List.mem_of_getElem? (i := 560) (by decide +kernel), by decide +kernel⟩
theorem lk_L_7 : LV RL 7 yX5_add cX5_add 2 (some .int) 1 := ⟨tg558, tg559, tg560, tg62, tg561, ⟨by decide +kernel, by decide +kernel, by decide +kernel⟩⟩
theorem tg657 : TG (.code yX5_binary cX5_binary 3 (some .int)) := ⟨List.mem_of_getElem? (i := 657) (by decide +kernel), by decide +kernel⟩
theorem tg654 : TG (.methodLink RL 17 yX5_binary) := ⟨List.mem_of_getElem? (i := 654) (by decide +kernel), by decide +kernel⟩
theorem tg655 : TG (.instanceMethod yX5_binary) := ⟨List.mem_of_getElem? (i := 655) (by decide +kernel), by decide +kernel⟩
theorem tg656 : TG (.selects yX5_binary.cls yX5_binary yX5_binary) := ⟨List.mem_of_getElem? (i := 656) (by decide +kernel), by decide +kernel⟩
theorem lk_L_17 : LV RL 17 yX5_binary cX5_binary 3 (some .int) 2 := ⟨tg654, tg655, tg656, tg62, tg657, ⟨by decide +kernel, by decide +kernel, by decide +kernel⟩⟩
theorem tg684 : TG (.code yX5_binaryReal cX5_binaryReal 2 (some .double)) := ⟨List.mem_of_getElem? (i := 684) (by decide +kernel), by decide +kernel⟩
theorem tg681 : TG (.methodLink RL 23 yX5_binaryReal) := ⟨List.mem_of_getElem? (i := 681) (by decide +kernel), by decide +kernel⟩
theorem tg682 : TG (.instanceMethod yX5_binaryReal) := ⟨List.mem_of_getElem? (i := 682) (by decide +kernel), by decide +kernel⟩
theorem tg683 : TG (.selects yX5_binaryReal.cls yX5_binaryReal yX5_binaryReal) := ⟨List.mem_of_getElem? (i := 683) (by decide +kernel), by decide +kernel⟩
theorem lk_L_23 : LV RL 23 yX5_binaryReal cX5_binaryReal 2 (some .double) 1 := ⟨tg681, tg682, tg683, tg62, tg684, ⟨by decide +kernel, by decide +kernel, by decide +kernel⟩⟩
theorem tg692 : TG (.code yX5_octet cX5_octet 2 (some .byte)) := ⟨List.mem_of_getElem? (i := 692) (by decide +kernel), by decide +kernel⟩
theorem tg689 : TG (.methodLink RL 27 yX5_octet) := ⟨List.mem_of_getElem? (i := 689) (by decide +kernel), by decide +kernel⟩
theorem tg690 : TG (.instanceMethod yX5_octet) := ⟨List.mem_of_getElem? (i := 690) (by decide +kernel), by decide +kernel⟩
theorem tg691 : TG (.selects yX5_octet.cls yX5_octet yX5_octet) := ⟨List.mem_of_getElem? (i := 691) (by decide +kernel), by decide +kernel⟩
theorem lk_L_27 : LV RL 27 yX5_octet cX5_octet 2 (some .byte) 1 := ⟨tg689, tg690, tg691, tg62, tg692, ⟨by decide +kernel, by decide +kernel, by decide +kernel⟩⟩
theorem tg81 : TG (.code yX5_init cX5_init 1 none) := ⟨List.mem_of_getElem? (i := 81) (by decide +kernel), by decide +kernel⟩
theorem tg79 : TG (.methodLink RL 33 yX5_init) := ⟨List.mem_of_getElem? (i := 79) (by decide +kernel), by decide +kernel⟩
theorem tg80 : TG (.instanceMethod yX5_init) := ⟨List.mem_of_getElem? (i := 80) (by decide +kernel), by decide +kernel⟩
theorem lk_L_33 : LI RL 33 yX5_init cX5_init 1 0 := ⟨tg79, tg80, tg62, tg81, ⟨by decide +kernel, by decide +kernel, by decide +kernel⟩⟩
theorem tg716 : TG (.code yX6_init cX6_init 1 none) := ⟨List.mem_of_getElem? (i := 716) (by decide +kernel), by decide +kernel⟩
theorem tg68 : TG (.initialized yX6_init.cls) := ⟨List.mem_of_getElem? (i := 68) (by decide +kernel), by decide +kernel⟩
theorem tg714 : TG (.methodLink RL 36 yX6_init) := ⟨List.mem_of_getElem? (i := 714) (by decide +kernel), by decide +kernel⟩
theorem tg715 : TG (.instanceMethod yX6_init) := ⟨List.mem_of_getElem? (i := 715) (by decide +kernel), by decide +kernel⟩
theorem lk_L_36 : LI RL 36 yX6_init cX6_init 1 0 := ⟨tg714, tg715, tg68, tg716, ⟨by decide +kernel, by decide +kernel, by decide +kernel⟩⟩
theorem tg816 : TG (.code yX6_add cX6_add 2 (some .int)) := ⟨List.mem_of_getElem? (i := 816) (by decide +kernel), by decide +kernel⟩
theorem tg813 : TG (.methodLink RL 42 yX6_add) := ⟨List.mem_of_getElem? (i := 813) (by decide +kernel), by decide +kernel⟩
theorem tg814 : TG (.instanceMethod yX6_add) := ⟨List.mem_of_getElem? (i := 814) (by decide +kernel), by decide +kernel⟩
theorem tg815 : TG (.selects yX6_add.cls yX6_add yX6_add) := ⟨List.mem_of_getElem? (i := 815) (by decide +kernel), by decide +kernel⟩
theorem lk_L_42 : LV RL 42 yX6_add cX6_add 2 (some .int) 1 := ⟨tg813, tg814, tg815, tg68, tg816, ⟨by decide +kernel, by decide +kernel, by decide +kernel⟩⟩
theorem tg812 : TG (.code yX6_thrown cX6_thrown 1 (some .int)) := ⟨List.mem_of_getElem? (i := 812) (by decide +kernel), by decide +kernel⟩
theorem tg809 : TG (.methodLink RL 43 yX6_thrown) := ⟨List.mem_of_getElem? (i := 809) (by decide +kernel), by decide +kernel⟩
theorem tg810 : TG (.instanceMethod yX6_thrown) := ⟨List.mem_of_getElem? (i := 810) (by decide +kernel), by decide +kernel⟩
theorem tg811 : TG (.selects yX6_thrown.cls yX6_thrown yX6_thrown) := ⟨List.mem_of_getElem? (i := 811) (by decide +kernel), by decide +kernel⟩
theorem lk_L_43 : LV RL 43 yX6_thrown cX6_thrown 1 (some .int) 0 := ⟨tg809, tg810, tg811, tg68, tg812, ⟨by decide +kernel, by decide +kernel, by decide +kernel⟩⟩
theorem tg231 : TG (.code yX5_end cX5_end 1 (some .int)) := ⟨List.mem_of_getElem? (i := 231) (by decide +kernel), by decide +kernel⟩
theorem tg228 : TG (.methodLink RL 47 yX5_end) := ⟨List.mem_of_getElem? (i := 228) (by decide +kernel), by decide +kernel⟩
theorem tg229 : TG (.instanceMethod yX5_end) := ⟨List.mem_of_getElem? (i := 229) (by decide +kernel), by decide +kernel⟩
theorem tg230 : TG (.selects yX5_end.cls yX5_end yX5_end) := ⟨List.mem_of_getElem? (i := 230) (by decide +kernel), by decide +kernel⟩
theorem lk_L_47 : LV RL 47 yX5_end cX5_end 1 (some .int) 0 := ⟨tg228, tg229, tg230, tg62, tg231, ⟨by decide +kernel, by decide +kernel, by decide +kernel⟩⟩
theorem tg820 : TG (.code yX6_end cX6_end 1 (some .int)) := ⟨List.mem_of_getElem? (i := 820) (by decide +kernel), by decide +kernel⟩
theorem tg817 : TG (.methodLink RL 50 yX6_end) := ⟨List.mem_of_getElem? (i := 817) (by decide +kernel), by decide +kernel⟩
theorem tg818 : TG (.instanceMethod yX6_end) := ⟨List.mem_of_getElem? (i := 818) (by decide +kernel), by decide +kernel⟩
theorem tg819 : TG (.selects yX6_end.cls yX6_end yX6_end) := ⟨List.mem_of_getElem? (i := 819) (by decide +kernel), by decide +kernel⟩
theorem lk_L_50 : LV RL 50 yX6_end cX6_end 1 (some .int) 0 := ⟨tg817, tg818, tg819, tg68, tg820, ⟨by decide +kernel, by decide +kernel, by decide +kernel⟩⟩
theorem tg235 : TG (.code yX5_next cX5_next 3 (some .int)) := ⟨List.mem_of_getElem? (i := 235) (by decide +kernel), by decide +kernel⟩
theorem tg232 : TG (.methodLink RL 51 yX5_next) := ⟨List.mem_of_getElem? (i := 232) (by decide +kernel), by decide +kernel⟩
theorem tg233 : TG (.instanceMethod yX5_next) := ⟨List.mem_of_getElem? (i := 233) (by decide +kernel), by decide +kernel⟩
theorem tg234 : TG (.selects yX5_next.cls yX5_next yX5_next) := ⟨List.mem_of_getElem? (i := 234) (by decide +kernel), by decide +kernel⟩
theorem lk_L_51 : LV RL 51 yX5_next cX5_next 3 (some .int) 0 := ⟨tg232, tg233, tg234, tg62, tg235, ⟨by decide +kernel, by decide +kernel, by decide +kernel⟩⟩
theorem tg824 : TG (.code yX6_next cX6_next 2 (some .int)) := ⟨List.mem_of_getElem? (i := 824) (by decide +kernel), by decide +kernel⟩
theorem tg821 : TG (.methodLink RL 54 yX6_next) := ⟨List.mem_of_getElem? (i := 821) (by decide +kernel), by decide +kernel⟩
theorem tg822 : TG (.instanceMethod yX6_next) := ⟨List.mem_of_getElem? (i := 822) (by decide +kernel), by decide +kernel⟩
theorem tg823 : TG (.selects yX6_next.cls yX6_next yX6_next) := ⟨List.mem_of_getElem? (i := 823) (by decide +kernel), by decide +kernel⟩
theorem lk_L_54 : LV RL 54 yX6_next cX6_next 2 (some .int) 0 := ⟨tg821, tg822, tg823, tg68, tg824, ⟨by decide +kernel, by decide +kernel, by decide +kernel⟩⟩
theorem tg523 : TG (.code yX5_whole cX5_whole 1 (some .long)) := ⟨List.mem_of_getElem? (i := 523) (by decide +kernel), by decide +kernel⟩
theorem tg520 : TG (.methodLink RL 55 yX5_whole) := ⟨List.mem_of_getElem? (i := 520) (by decide +kernel), by decide +kernel⟩
theorem tg521 : TG (.instanceMethod yX5_whole) := ⟨List.mem_of_getElem? (i := 521) (by decide +kernel), by decide +kernel⟩
theorem tg522 : TG (.selects yX5_whole.cls yX5_whole yX5_whole) := ⟨List.mem_of_getElem? (i := 522) (by decide +kernel), by decide +kernel⟩
theorem lk_L_55 : LV RL 55 yX5_whole cX5_whole 1 (some .long) 0 := ⟨tg520, tg521, tg522, tg62, tg523, ⟨by decide +kernel, by decide +kernel, by decide +kernel⟩⟩
theorem tg989 : TG (.code yX6_whole cX6_whole 1 (some .long)) := ⟨List.mem_of_getElem? (i := 989) (by decide +kernel), by decide +kernel⟩
theorem tg986 : TG (.methodLink RL 59 yX6_whole) := ⟨List.mem_of_getElem? (i := 986) (by decide +kernel), by decide +kernel⟩
theorem tg987 : TG (.instanceMethod yX6_whole) := ⟨List.mem_of_getElem? (i := 987) (by decide +kernel), by decide +kernel⟩
theorem tg988 : TG (.selects yX6_whole.cls yX6_whole yX6_whole) := ⟨List.mem_of_getElem? (i := 988) (by decide +kernel), by decide +kernel⟩
theorem lk_L_59 : LV RL 59 yX6_whole cX6_whole 1 (some .long) 0 := ⟨tg986, tg987, tg988, tg68, tg989, ⟨by decide +kernel, by decide +kernel, by decide +kernel⟩⟩
theorem tg527 : TG (.code yX5_real cX5_real 1 (some .double)) := ⟨List.mem_of_getElem? (i := 527) (by decide +kernel), by decide +kernel⟩
theorem tg524 : TG (.methodLink RL 60 yX5_real) := ⟨List.mem_of_getElem? (i := 524) (by decide +kernel), by decide +kernel⟩
theorem tg525 : TG (.instanceMethod yX5_real) := ⟨List.mem_of_getElem? (i := 525) (by decide +kernel), by decide +kernel⟩
theorem tg526 : TG (.selects yX5_real.cls yX5_real yX5_real) := ⟨List.mem_of_getElem? (i := 526) (by decide +kernel), by decide +kernel⟩
theorem lk_L_60 : LV RL 60 yX5_real cX5_real 1 (some .double) 0 := ⟨tg524, tg525, tg526, tg62, tg527, ⟨by decide +kernel, by decide +kernel, by decide +kernel⟩⟩
theorem tg993 : TG (.code yX6_real cX6_real 1 (some .double)) := ⟨List.mem_of_getElem? (i := 993) (by decide +kernel), by decide +kernel⟩
theorem tg990 : TG (.methodLink RL 64 yX6_real) := ⟨List.mem_of_getElem? (i := 990) (by decide +kernel), by decide +kernel⟩
theorem tg991 : TG (.instanceMethod yX6_real) := ⟨List.mem_of_getElem? (i := 991) (by decide +kernel), by decide +kernel⟩
theorem tg992 : TG (.selects yX6_real.cls yX6_real yX6_real) := ⟨List.mem_of_getElem? (i := 992) (by decide +kernel), by decide +kernel⟩
theorem lk_L_64 : LV RL 64 yX6_real cX6_real 1 (some .double) 0 := ⟨tg990, tg991, tg992, tg68, tg993, ⟨by decide +kernel, by decide +kernel, by decide +kernel⟩⟩
theorem tg531 : TG (.code yX5_sign cX5_sign 2 (some .int)) := ⟨List.mem_of_getElem? (i := 531) (by decide +kernel), by decide +kernel⟩
theorem tg528 : TG (.methodLink RL 65 yX5_sign) := ⟨List.mem_of_getElem? (i := 528) (by decide +kernel), by decide +kernel⟩
theorem tg529 : TG (.instanceMethod yX5_sign) := ⟨List.mem_of_getElem? (i := 529) (by decide +kernel), by decide +kernel⟩
theorem tg530 : TG (.selects yX5_sign.cls yX5_sign yX5_sign) := ⟨List.mem_of_getElem? (i := 530) (by decide +kernel), by decide +kernel⟩
theorem lk_L_65 : LV RL 65 yX5_sign cX5_sign 2 (some .int) 1 := ⟨tg528, tg529, tg530, tg62, tg531, ⟨by decide +kernel, by decide +kernel, by decide +kernel⟩⟩
theorem tg997 : TG (.code yX6_sign cX6_sign 2 (some .int)) := ⟨List.mem_of_getElem? (i := 997) (by decide +kernel), by decide +kernel⟩
theorem tg994 : TG (.methodLink RL 69 yX6_sign) := ⟨List.mem_of_getElem? (i := 994) (by decide +kernel), by decide +kernel⟩
theorem tg995 : TG (.instanceMethod yX6_sign) := ⟨List.mem_of_getElem? (i := 995) (by decide +kernel), by decide +kernel⟩
theorem tg996 : TG (.selects yX6_sign.cls yX6_sign yX6_sign) := ⟨List.mem_of_getElem? (i := 996) (by decide +kernel), by decide +kernel⟩
theorem lk_L_69 : LV RL 69 yX6_sign cX6_sign 2 (some .int) 1 := ⟨tg994, tg995, tg996, tg68, tg997, ⟨by decide +kernel, by decide +kernel, by decide +kernel⟩⟩
theorem tg1001 : TG (.code yX6_binary cX6_binary 3 (some .int)) := ⟨List.mem_of_getElem? (i := 1001) (by decide +kernel), by decide +kernel⟩
theorem tg998 : TG (.methodLink RL 73 yX6_binary) := ⟨List.mem_of_getElem? (i := 998) (by decide +kernel), by decide +kernel⟩
theorem tg999 : TG (.instanceMethod yX6_binary) := ⟨List.mem_of_getElem? (i := 999) (by decide +kernel), by decide +kernel⟩
theorem tg1000 : TG (.selects yX6_binary.cls yX6_binary yX6_binary) := ⟨List.mem_of_getElem? (i := 1000) (by decide +kernel), by decide +kernel⟩
theorem lk_L_73 : LV RL 73 yX6_binary cX6_binary 3 (some .int) 2 := ⟨tg998, tg999, tg1000, tg68, tg1001, ⟨by decide +kernel, by decide +kernel, by decide +kernel⟩⟩
theorem tg1005 : TG (.code yX6_binaryReal cX6_binaryReal 2 (some .double)) := ⟨List.mem_of_getElem? (i := 1005) (by decide +kernel), by decide +kernel⟩
theorem tg1002 : TG (.methodLink RL 77 yX6_binaryReal) := ⟨List.mem_of_getElem? (i := 1002) (by decide +kernel), by decide +kernel⟩
theorem tg1003 : TG (.instanceMethod yX6_binaryReal) := ⟨List.mem_of_getElem? (i := 1003) (by decide +kernel), by decide +kernel⟩
theorem tg1004 : TG (.selects yX6_binaryReal.cls yX6_binaryReal yX6_binaryReal) := ⟨List.mem_of_getElem? (i := 1004) (by decide +kernel), by decide +kernel⟩
theorem lk_L_77 : LV RL 77 yX6_binaryReal cX6_binaryReal 2 (some .double) 1 := ⟨tg1002, tg1003, tg1004, tg68, tg1005, ⟨by decide +kernel, by decide +kernel, by decide +kernel⟩⟩
theorem tg536 : TG (.code yX5_place cX5_place 1 (some .int)) := ⟨List.mem_of_getElem? (i := 536) (by decide +kernel), by decide +kernel⟩
theorem tg533 : TG (.methodLink RL 78 yX5_place) := ⟨List.mem_of_getElem? (i := 533) (by decide +kernel), by decide +kernel⟩
theorem tg534 : TG (.instanceMethod yX5_place) := ⟨List.mem_of_getElem? (i := 534) (by decide +kernel), by decide +kernel⟩
theorem tg535 : TG (.selects yX5_place.cls yX5_place yX5_place) := ⟨List.mem_of_getElem? (i := 535) (by decide +kernel), by decide +kernel⟩
theorem lk_L_78 : LV RL 78 yX5_place cX5_place 1 (some .int) 0 := ⟨tg533, tg534, tg535, tg62, tg536, ⟨by decide +kernel, by decide +kernel, by decide +kernel⟩⟩
theorem tg1009 : TG (.code yX6_place cX6_place 1 (some .int)) := ⟨List.mem_of_getElem? (i := 1009) (by decide +kernel), by decide +kernel⟩
theorem tg1006 : TG (.methodLink RL 81 yX6_place) := ⟨List.mem_of_getElem? (i := 1006) (by decide +kernel), by decide +kernel⟩
theorem tg1007 : TG (.instanceMethod yX6_place) := ⟨List.mem_of_getElem? (i := 1007) (by decide +kernel), by decide +kernel⟩
theorem tg1008 : TG (.selects yX6_place.cls yX6_place yX6_place) := ⟨List.mem_of_getElem? (i := 1008) (by decide +kernel), by decide +kernel⟩
theorem lk_L_81 : LV RL 81 yX6_place cX6_place 1 (some .int) 0 := ⟨tg1006, tg1007, tg1008, tg68, tg1009, ⟨by decide +kernel, by decide +kernel, by decide +kernel⟩⟩
theorem tg540 : TG (.code yX5_base cX5_base 1 (some .int)) := ⟨List.mem_of_getElem? (i := 540) (by decide +kernel), by decide +kernel⟩
theorem tg537 : TG (.methodLink RL 82 yX5_base) := ⟨List.mem_of_getElem? (i := 537) (by decide +kernel), by decide +kernel⟩
theorem tg538 : TG (.instanceMethod yX5_base) := ⟨List.mem_of_getElem? (i := 538) (by decide +kernel), by decide +kernel⟩
theorem tg539 : TG (.selects yX5_base.cls yX5_base yX5_base) := ⟨List.mem_of_getElem? (i := 539) (by decide +kernel), by decide +kernel⟩
theorem lk_L_82 : LV RL 82 yX5_base cX5_base 1 (some .int) 0 := ⟨tg537, tg538, tg539, tg62, tg540, ⟨by decide +kernel, by decide +kernel, by decide +kernel⟩⟩
theorem tg1013 : TG (.code yX6_base cX6_base 1 (some .int)) := ⟨List.mem_of_getElem? (i := 1013) (by decide +kernel), by decide +kernel⟩
theorem tg1010 : TG (.methodLink RL 85 yX6_base) := ⟨List.mem_of_getElem? (i := 1010) (by decide +kernel), by decide +kernel⟩
theorem tg1011 : TG (.instanceMethod yX6_base) := ⟨List.mem_of_getElem? (i := 1011) (by decide +kernel), by decide +kernel⟩
theorem tg1012 : TG (.selects yX6_base.cls yX6_base yX6_base) := ⟨List.mem_of_getElem? (i := 1012) (by decide +kernel), by decide +kernel⟩
theorem lk_L_85 : LV RL 85 yX6_base cX6_base 1 (some .int) 0 := ⟨tg1010, tg1011, tg1012, tg68, tg1013, ⟨by decide +kernel, by decide +kernel, by decide +kernel⟩⟩
theorem tg544 : TG (.code yX5_depth cX5_depth 1 (some .int)) := ⟨List.mem_of_getElem? (i := 544) (by decide +kernel), by decide +kernel⟩
theorem tg541 : TG (.methodLink RL 86 yX5_depth) := ⟨List.mem_of_getElem? (i := 541) (by decide +kernel), by decide +kernel⟩
theorem tg542 : TG (.instanceMethod yX5_depth) := ⟨List.mem_of_getElem? (i := 542) (by decide +kernel), by decide +kernel⟩
theorem tg543 : TG (.selects yX5_depth.cls yX5_depth yX5_depth) := ⟨List.mem_of_getElem? (i := 543) (by decide +kernel), by decide +kernel⟩
theorem lk_L_86 : LV RL 86 yX5_depth cX5_depth 1 (some .int) 0 := ⟨tg541, tg542, tg543, tg62, tg544, ⟨by decide +kernel, by decide +kernel, by decide +kernel⟩⟩
theorem tg1017 : TG (.code yX6_depth cX6_depth 1 (some .int)) := ⟨List.mem_of_getElem? (i := 1017) (by decide +kernel), by decide +kernel⟩
theorem tg1014 : TG (.methodLink RL 89 yX6_depth) := ⟨List.mem_of_getElem? (i := 1014) (by decide +kernel), by decide +kernel⟩
theorem tg1015 : TG (.instanceMethod yX6_depth) := ⟨List.mem_of_getElem? (i := 1015) (by decide +kernel), by decide +kernel⟩
theorem tg1016 : TG (.selects yX6_depth.cls yX6_depth yX6_depth) := ⟨List.mem_of_getElem? (i := 1016) (by decide +kernel), by decide +kernel⟩
theorem lk_L_89 : LV RL 89 yX6_depth cX6_depth 1 (some .int) 0 := ⟨tg1014, tg1015, tg1016, tg68, tg1017, ⟨by decide +kernel, by decide +kernel, by decide +kernel⟩⟩
theorem tg1021 : TG (.code yX6_octet cX6_octet 2 (some .byte)) := ⟨List.mem_of_getElem? (i := 1021) (by decide +kernel), by decide +kernel⟩
theorem tg1018 : TG (.methodLink RL 93 yX6_octet) := ⟨List.mem_of_getElem? (i := 1018) (by decide +kernel), by decide +kernel⟩
theorem tg1019 : TG (.instanceMethod yX6_octet) := ⟨List.mem_of_getElem? (i := 1019) (by decide +kernel), by decide +kernel⟩
theorem tg1020 : TG (.selects yX6_octet.cls yX6_octet yX6_octet) := ⟨List.mem_of_getElem? (i := 1020) (by decide +kernel), by decide +kernel⟩
theorem lk_L_93 : LV RL 93 yX6_octet cX6_octet 2 (some .byte) 1 := ⟨tg1018, tg1019, tg1020, tg68, tg1021, ⟨by decide +kernel, by decide +kernel, by decide +kernel⟩⟩
theorem tg548 : TG (.code yX5_clear cX5_clear 1 none) := ⟨List.mem_of_getElem? (i := 548) (by decide +kernel), by decide +kernel⟩
theorem tg545 : TG (.methodLink RL 94 yX5_clear) := ⟨List.mem_of_getElem? (i := 545) (by decide +kernel), by decide +kernel⟩
theorem tg546 : TG (.instanceMethod yX5_clear) := ⟨List.mem_of_getElem? (i := 546) (by decide +kernel), by decide +kernel⟩
theorem tg547 : TG (.selects yX5_clear.cls yX5_clear yX5_clear) := ⟨List.mem_of_getElem? (i := 547) (by decide +kernel), by decide +kernel⟩
theorem lk_L_94 : LV RL 94 yX5_clear cX5_clear 1 none 0 := ⟨tg545, tg546, tg547, tg62, tg548, ⟨by decide +kernel, by decide +kernel, by decide +kernel⟩⟩
theorem tg1025 : TG (.code yX6_clear cX6_clear 1 none) := ⟨List.mem_of_getElem? (i := 1025) (by decide +kernel), by decide +kernel⟩
theorem tg1022 : TG (.methodLink RL 97 yX6_clear) := ⟨List.mem_of_getElem? (i := 1022) (by decide +kernel), by decide +kernel⟩
theorem tg1023 : TG (.instanceMethod yX6_clear) := ⟨List.mem_of_getElem? (i := 1023) (by decide +kernel), by decide +kernel⟩
theorem tg1024 : TG (.selects yX6_clear.cls yX6_clear yX6_clear) := ⟨List.mem_of_getElem? (i := 1024) (by decide +kernel), by decide +kernel⟩
theorem lk_L_97 : LV RL 97 yX6_clear cX6_clear 1 none 0 := ⟨tg1022, tg1023, tg1024, tg68, tg1025, ⟨by decide +kernel, by decide +kernel, by decide +kernel⟩⟩
theorem tg142 : TG (.fieldLink RX0 9 (TX0 0).1 (TX0 0).2.1 (TX0 0).2.2.1) := ⟨List.mem_of_getElem? (i := 142) (by decide +kernel), by decide +kernel⟩
theorem fl_X0_9 : FL RX0 9 1 0 RX0 TX0 1 := ⟨rfl, by decide, tg142, us_X0⟩
theorem tg271 : TG (.code yX0_readNumber cX0_readNumber 5 (some .int)) := ⟨List.mem_of_getElem? (i := 271) (by decide +kernel), by decide +kernel⟩
theorem tg66 : TG (.initialized yX0_readNumber.cls) := ⟨List.mem_of_getElem? (i := 66) (by decide +kernel), by decide +kernel⟩
theorem tg268 : TG (.methodLink RX0 15 yX0_readNumber) := ⟨List.mem_of_getElem? (i := 268) (by decide +kernel), by decide +kernel⟩
theorem tg270 : TG (.instanceMethod yX0_readNumber) := ⟨List.mem_of_getElem? (i := 270) (by decide +kernel), by decide +kernel⟩
theorem tg2 : TG (.selects yX0_readNumber.cls yX0_readNumber yX0_readNumber) := ⟨List.mem_of_getElem? (i := 2) (by decide +kernel), by decide +kernel⟩
theorem lk_X0_15 : LV RX0 15 yX0_readNumber cX0_readNumber 5 (some .int) 3 := ⟨tg268, tg270, tg2, tg66, tg271, ⟨by decide +kernel, by decide +kernel, by decide +kernel⟩⟩
theorem tg292 : TG (.code yX0_readFixed cX0_readFixed 5 (some .int)) := ⟨List.mem_of_getElem? (i := 292) (by decide +kernel), by decide +kernel⟩
theorem tg289 : TG (.methodLink RX0 19 yX0_readFixed) := ⟨List.mem_of_getElem? (i := 289) (by decide +kernel), by decide +kernel⟩
theorem tg291 : TG (.instanceMethod yX0_readFixed) := ⟨List.mem_of_getElem? (i := 291) (by decide +kernel), by decide +kernel⟩
theorem tg5 : TG (.selects yX0_readFixed.cls yX0_readFixed yX0_readFixed) := ⟨List.mem_of_getElem? (i := 5) (by decide +kernel), by decide +kernel⟩
theorem lk_X0_19 : LV RX0 19 yX0_readFixed cX0_readFixed 5 (some .int) 1 := ⟨tg289, tg291, tg5, tg66, tg292, ⟨by decide +kernel, by decide +kernel, by decide +kernel⟩⟩
theorem tg314 : TG (.code yX0_readFloat cX0_readFloat 5 (some .int)) := ⟨List.mem_of_getElem? (i := 314) (by decide +kernel), by decide +kernel⟩
theorem tg311 : TG (.methodLink RX0 23 yX0_readFloat) := ⟨List.mem_of_getElem? (i := 311) (by decide +kernel), by decide +kernel⟩
theorem tg313 : TG (.instanceMethod yX0_readFloat) := ⟨List.mem_of_getElem? (i := 313) (by decide +kernel), by decide +kernel⟩
theorem tg6 : TG (.selects yX0_readFloat.cls yX0_readFloat yX0_readFloat) := ⟨List.mem_of_getElem? (i := 6) (by decide +kernel), by decide +kernel⟩
theorem lk_X0_23 : LV RX0 23 yX0_readFloat cX0_readFloat 5 (some .int) 2 := ⟨tg311, tg313, tg6, tg66, tg314, ⟨by decide +kernel, by decide +kernel, by decide +kernel⟩⟩
theorem tg326 : TG (.code yX0_readTruth cX0_readTruth 4 (some .int)) := ⟨List.mem_of_getElem? (i := 326) (by decide +kernel), by decide +kernel⟩
theorem tg323 : TG (.methodLink RX0 27 yX0_readTruth) := ⟨List.mem_of_getElem? (i := 323) (by decide +kernel), by decide +kernel⟩
theorem tg325 : TG (.instanceMethod yX0_readTruth) := ⟨List.mem_of_getElem? (i := 325) (by decide +kernel), by decide +kernel⟩
theorem tg7 : TG (.selects yX0_readTruth.cls yX0_readTruth yX0_readTruth) := ⟨List.mem_of_getElem? (i := 7) (by decide +kernel), by decide +kernel⟩
theorem lk_X0_27 : LV RX0 27 yX0_readTruth cX0_readTruth 4 (some .int) 1 := ⟨tg323, tg325, tg7, tg66, tg326, ⟨by decide +kernel, by decide +kernel, by decide +kernel⟩⟩
theorem tg334 : TG (.code yX0_readString cX0_readString 7 (some .int)) := ⟨List.mem_of_getElem? (i := 334) (by decide +kernel), by decide +kernel⟩
theorem tg331 : TG (.methodLink RX0 30 yX0_readString) := ⟨List.mem_of_getElem? (i := 331) (by decide +kernel), by decide +kernel⟩
theorem tg333 : TG (.instanceMethod yX0_readString) := ⟨List.mem_of_getElem? (i := 333) (by decide +kernel), by decide +kernel⟩
theorem tg9 : TG (.selects yX0_readString.cls yX0_readString yX0_readString) := ⟨List.mem_of_getElem? (i := 9) (by decide +kernel), by decide +kernel⟩
theorem lk_X0_30 : LV RX0 30 yX0_readString cX0_readString 7 (some .int) 3 := ⟨tg331, tg333, tg9, tg66, tg334, ⟨by decide +kernel, by decide +kernel, by decide +kernel⟩⟩
theorem tg330 : TG (.code yX0_readNumbered cX0_readNumbered 4 (some .int)) := ⟨List.mem_of_getElem? (i := 330) (by decide +kernel), by decide +kernel⟩
theorem tg327 : TG (.methodLink RX0 33 yX0_readNumbered) := ⟨List.mem_of_getElem? (i := 327) (by decide +kernel), by decide +kernel⟩
theorem tg329 : TG (.instanceMethod yX0_readNumbered) := ⟨List.mem_of_getElem? (i := 329) (by decide +kernel), by decide +kernel⟩
theorem tg8 : TG (.selects yX0_readNumbered.cls yX0_readNumbered yX0_readNumbered) := ⟨List.mem_of_getElem? (i := 8) (by decide +kernel), by decide +kernel⟩
theorem lk_X0_33 : LV RX0 33 yX0_readNumbered cX0_readNumbered 4 (some .int) 2 := ⟨tg327, tg329, tg8, tg66, tg330, ⟨by decide +kernel, by decide +kernel, by decide +kernel⟩⟩
theorem tg351 : TG (.code yX0_readRow cX0_readRow 5 (some .int)) := ⟨List.mem_of_getElem? (i := 351) (by decide +kernel), by decide +kernel⟩
theorem tg348 : TG (.methodLink RX0 37 yX0_readRow) := ⟨List.mem_of_getElem? (i := 348) (by decide +kernel), by decide +kernel⟩
theorem tg350 : TG (.instanceMethod yX0_readRow) := ⟨List.mem_of_getElem? (i := 350) (by decide +kernel), by decide +kernel⟩
theorem tg11 : TG (.selects yX0_readRow.cls yX0_readRow yX0_readRow) := ⟨List.mem_of_getElem? (i := 11) (by decide +kernel), by decide +kernel⟩
theorem lk_X0_37 : LV RX0 37 yX0_readRow cX0_readRow 5 (some .int) 1 := ⟨tg348, tg350, tg11, tg66, tg351, ⟨by decide +kernel, by decide +kernel, by decide +kernel⟩⟩
theorem tg158 : TG (.fieldLink RX0 40 (TX3 1).1 (TX3 1).2.1 (TX3 1).2.2.1) := ⟨List.mem_of_getElem? (i := 158) (by decide +kernel), by decide +kernel⟩
theorem fl_X0_40 : FL RX0 40 4 1 RX3 TX3 10 := ⟨rfl, by decide, tg158, us_X3⟩
theorem tg95 : TG (.fieldLink RX0 46 (TX1 1).1 (TX1 1).2.1 (TX1 1).2.2.1) := ⟨List.mem_of_getElem? (i := 95) (by decide +kernel), by decide +kernel⟩
theorem fl_X0_46 : FL RX0 46 2 1 RX1 TX1 4 := ⟨rfl, by decide, tg95, us_X1⟩
theorem tg155 : TG (.fieldLink RX0 51 (TX3 0).1 (TX3 0).2.1 (TX3 0).2.2.1) := ⟨List.mem_of_getElem? (i := 155) (by decide +kernel), by decide +kernel⟩
theorem fl_X0_51 : FL RX0 51 4 0 RX3 TX3 10 := ⟨rfl, by decide, tg155, us_X3⟩
theorem tg275 : TG (.code yX0_reaches cX0_reaches 3 (some .boolean)) := ⟨List.mem_of_getElem? (i := 275) (by decide +kernel), by decide +kernel⟩
theorem tg272 : TG (.methodLink RX0 54 yX0_reaches) := ⟨List.mem_of_getElem? (i := 272) (by decide +kernel), by decide +kernel⟩
theorem tg274 : TG (.instanceMethod yX0_reaches) := ⟨List.mem_of_getElem? (i := 274) (by decide +kernel), by decide +kernel⟩
theorem tg3 : TG (.selects yX0_reaches.cls yX0_reaches yX0_reaches) := ⟨List.mem_of_getElem? (i := 3) (by decide +kernel), by decide +kernel⟩
theorem lk_X0_54 : LV RX0 54 yX0_reaches cX0_reaches 3 (some .boolean) 2 := ⟨tg272, tg274, tg3, tg66, tg275, ⟨by decide +kernel, by decide +kernel, by decide +kernel⟩⟩
theorem tg279 : TG (.code yX1_lacking cX1_lacking 2 (some .int)) := ⟨List.mem_of_getElem? (i := 279) (by decide +kernel), by decide +kernel⟩
theorem tg63 : TG (.initialized yX1_lacking.cls) := ⟨List.mem_of_getElem? (i := 63) (by decide +kernel), by decide +kernel⟩
theorem tg276 : TG (.methodLink RX0 58 yX1_lacking) := ⟨List.mem_of_getElem? (i := 276) (by decide +kernel), by decide +kernel⟩
theorem tg277 : TG (.instanceMethod yX1_lacking) := ⟨List.mem_of_getElem? (i := 277) (by decide +kernel), by decide +kernel⟩
theorem tg278 : TG (.selects yX1_lacking.cls yX1_lacking yX1_lacking) := ⟨List.mem_of_getElem? (i := 278) (by decide +kernel), by decide +kernel⟩
theorem lk_X0_58 : LV RX0 58 yX1_lacking cX1_lacking 2 (some .int) 1 := ⟨tg276, tg277, tg278, tg63, tg279, ⟨by decide +kernel, by decide +kernel, by decide +kernel⟩⟩
theorem tg283 : TG (.code yX0_signedAt cX0_signedAt 6 (some .int)) := ⟨List.mem_of_getElem? (i := 283) (by decide +kernel), by decide +kernel⟩
theorem tg280 : TG (.methodLink RX0 61 yX0_signedAt) := ⟨List.mem_of_getElem? (i := 280) (by decide +kernel), by decide +kernel⟩
theorem tg282 : TG (.instanceMethod yX0_signedAt) := ⟨List.mem_of_getElem? (i := 282) (by decide +kernel), by decide +kernel⟩
theorem tg4 : TG (.selects yX0_signedAt.cls yX0_signedAt yX0_signedAt) := ⟨List.mem_of_getElem? (i := 4) (by decide +kernel), by decide +kernel⟩
theorem lk_X0_61 : LV RX0 61 yX0_signedAt cX0_signedAt 6 (some .int) 3 := ⟨tg280, tg282, tg4, tg66, tg283, ⟨by decide +kernel, by decide +kernel, by decide +kernel⟩⟩
theorem tg288 : TG (.code yX3_asWhole cX3_asWhole 4 (some .int)) := ⟨List.mem_of_getElem? (i := 288) (by decide +kernel), by decide +kernel⟩
theorem tg67 : TG (.initialized yX3_asWhole.cls) := ⟨List.mem_of_getElem? (i := 67) (by decide +kernel), by decide +kernel⟩
theorem tg285 : TG (.methodLink RX0 65 yX3_asWhole) := ⟨List.mem_of_getElem? (i := 285) (by decide +kernel), by decide +kernel⟩
theorem tg286 : TG (.instanceMethod yX3_asWhole) := ⟨List.mem_of_getElem? (i := 286) (by decide +kernel), by decide +kernel⟩
theorem tg287 : TG (.selects yX3_asWhole.cls yX3_asWhole yX3_asWhole) := ⟨List.mem_of_getElem? (i := 287) (by decide +kernel), by decide +kernel⟩
theorem lk_X0_65 : LV RX0 65 yX3_asWhole cX3_asWhole 4 (some .int) 2 := ⟨tg285, tg286, tg287, tg67, tg288, ⟨by decide +kernel, by decide +kernel, by decide +kernel⟩⟩
theorem tg243 : TG (.code yX1_at cX1_at 2 (some .int)) := ⟨List.mem_of_getElem? (i := 243) (by decide +kernel), by decide +kernel⟩
theorem tg284 : TG (.methodLink RX0 69 yX1_at) := ⟨List.mem_of_getElem? (i := 284) (by decide +kernel), by decide +kernel⟩
theorem tg241 : TG (.instanceMethod yX1_at) := ⟨List.mem_of_getElem? (i := 241) (by decide +kernel), by decide +kernel⟩
theorem tg242 : TG (.selects yX1_at.cls yX1_at yX1_at) := ⟨List.mem_of_getElem? (i := 242) (by decide +kernel), by decide +kernel⟩
theorem lk_X0_69 : LV RX0 69 yX1_at cX1_at 2 (some .int) 1 := ⟨tg284, tg241, tg242, tg63, tg243, ⟨by decide +kernel, by decide +kernel, by decide +kernel⟩⟩
theorem tg296 : TG (.code yX3_wrongByte cX3_wrongByte 3 (some .int)) := ⟨List.mem_of_getElem? (i := 296) (by decide +kernel), by decide +kernel⟩
theorem tg293 : TG (.methodLink RX0 73 yX3_wrongByte) := ⟨List.mem_of_getElem? (i := 293) (by decide +kernel), by decide +kernel⟩
theorem tg294 : TG (.instanceMethod yX3_wrongByte) := ⟨List.mem_of_getElem? (i := 294) (by decide +kernel), by decide +kernel⟩
theorem tg295 : TG (.selects yX3_wrongByte.cls yX3_wrongByte yX3_wrongByte) := ⟨List.mem_of_getElem? (i := 295) (by decide +kernel), by decide +kernel⟩
theorem lk_X0_73 : LV RX0 73 yX3_wrongByte cX3_wrongByte 3 (some .int) 2 := ⟨tg293, tg294, tg295, tg67, tg296, ⟨by decide +kernel, by decide +kernel, by decide +kernel⟩⟩
theorem tg299 : TG (.code yX0_widthOf cX0_widthOf 2 (some .int)) := ⟨List.mem_of_getElem? (i := 299) (by decide +kernel), by decide +kernel⟩
theorem tg297 : TG (.methodLink RX0 77 yX0_widthOf) := ⟨List.mem_of_getElem? (i := 297) (by decide +kernel), by decide +kernel⟩
theorem tg298 : TG (.static yX0_widthOf) := ⟨List.mem_of_getElem? (i := 298) (by decide +kernel), by decide +kernel⟩
theorem lk_X0_77 : LSt RX0 77 yX0_widthOf cX0_widthOf 2 (some .int) 1 := ⟨tg297, tg298, tg66, tg299, ⟨by decide +kernel, by decide +kernel, by decide +kernel⟩⟩
theorem tg302 : TG (.code yX0_fixedValue cX0_fixedValue 2 (some .double)) := ⟨List.mem_of_getElem? (i := 302) (by decide +kernel), by decide +kernel⟩
theorem tg300 : TG (.methodLink RX0 80 yX0_fixedValue) := ⟨List.mem_of_getElem? (i := 300) (by decide +kernel), by decide +kernel⟩
theorem tg301 : TG (.static yX0_fixedValue) := ⟨List.mem_of_getElem? (i := 301) (by decide +kernel), by decide +kernel⟩
theorem lk_X0_80 : LSt RX0 80 yX0_fixedValue cX0_fixedValue 2 (some .double) 2 := ⟨tg300, tg301, tg66, tg302, ⟨by decide +kernel, by decide +kernel, by decide +kernel⟩⟩
theorem tg310 : TG (.code yX3_asReal cX3_asReal 3 (some .int)) := ⟨List.mem_of_getElem? (i := 310) (by decide +kernel), by decide +kernel⟩
theorem tg307 : TG (.methodLink RX0 84 yX3_asReal) := ⟨List.mem_of_getElem? (i := 307) (by decide +kernel), by decide +kernel⟩
theorem tg308 : TG (.instanceMethod yX3_asReal) := ⟨List.mem_of_getElem? (i := 308) (by decide +kernel), by decide +kernel⟩
theorem tg309 : TG (.selects yX3_asReal.cls yX3_asReal yX3_asReal) := ⟨List.mem_of_getElem? (i := 309) (by decide +kernel), by decide +kernel⟩
theorem lk_X0_84 : LV RX0 84 yX3_asReal cX3_asReal 3 (some .int) 1 := ⟨tg307, tg308, tg309, tg67, tg310, ⟨by decide +kernel, by decide +kernel, by decide +kernel⟩⟩
theorem tg317 : TG (.code yX0_isFinite cX0_isFinite 1 (some .boolean)) := ⟨List.mem_of_getElem? (i := 317) (by decide +kernel), by decide +kernel⟩
theorem tg315 : TG (.methodLink RX0 88 yX0_isFinite) := ⟨List.mem_of_getElem? (i := 315) (by decide +kernel), by decide +kernel⟩
theorem tg316 : TG (.static yX0_isFinite) := ⟨List.mem_of_getElem? (i := 316) (by decide +kernel), by decide +kernel⟩
theorem lk_X0_88 : LSt RX0 88 yX0_isFinite cX0_isFinite 1 (some .boolean) 1 := ⟨tg315, tg316, tg66, tg317, ⟨by decide +kernel, by decide +kernel, by decide +kernel⟩⟩
theorem tg320 : TG (.code yX0_floatValue cX0_floatValue 5 (some .double)) := ⟨List.mem_of_getElem? (i := 320) (by decide +kernel), by decide +kernel⟩
theorem tg318 : TG (.methodLink RX0 92 yX0_floatValue) := ⟨List.mem_of_getElem? (i := 318) (by decide +kernel), by decide +kernel⟩
theorem tg319 : TG (.static yX0_floatValue) := ⟨List.mem_of_getElem? (i := 319) (by decide +kernel), by decide +kernel⟩
theorem lk_X0_92 : LSt RX0 92 yX0_floatValue cX0_floatValue 5 (some .double) 1 := ⟨tg318, tg319, tg66, tg320, ⟨by decide +kernel, by decide +kernel, by decide +kernel⟩⟩
theorem tg338 : TG (.code yX0_countAt cX0_countAt 4 (some .int)) := ⟨List.mem_of_getElem? (i := 338) (by decide +kernel), by decide +kernel⟩
theorem tg335 : TG (.methodLink RX0 96 yX0_countAt) := ⟨List.mem_of_getElem? (i := 335) (by decide +kernel), by decide +kernel⟩
theorem tg337 : TG (.instanceMethod yX0_countAt) := ⟨List.mem_of_getElem? (i := 337) (by decide +kernel), by decide +kernel⟩
theorem tg10 : TG (.selects yX0_countAt.cls yX0_countAt yX0_countAt) := ⟨List.mem_of_getElem? (i := 10) (by decide +kernel), by decide +kernel⟩
theorem lk_X0_96 : LV RX0 96 yX0_countAt cX0_countAt 4 (some .int) 3 := ⟨tg335, tg337, tg10, tg66, tg338, ⟨by decide +kernel, by decide +kernel, by decide +kernel⟩⟩
theorem tg343 : TG (.code yX3_put cX3_put 2 none) := ⟨List.mem_of_getElem? (i := 343) (by decide +kernel), by decide +kernel⟩
theorem tg340 : TG (.methodLink RX0 99 yX3_put) := ⟨List.mem_of_getElem? (i := 340) (by decide +kernel), by decide +kernel⟩
theorem tg341 : TG (.instanceMethod yX3_put) := ⟨List.mem_of_getElem? (i := 341) (by decide +kernel), by decide +kernel⟩
theorem tg342 : TG (.selects yX3_put.cls yX3_put yX3_put) := ⟨List.mem_of_getElem? (i := 342) (by decide +kernel), by decide +kernel⟩
theorem lk_X0_99 : LV RX0 99 yX3_put cX3_put 2 none 1 := ⟨tg340, tg341, tg342, tg67, tg343, ⟨by decide +kernel, by decide +kernel, by decide +kernel⟩⟩
theorem tg347 : TG (.code yX3_asText cX3_asText 3 (some .int)) := ⟨List.mem_of_getElem? (i := 347) (by decide +kernel), by decide +kernel⟩
theorem tg344 : TG (.methodLink RX0 103 yX3_asText) := ⟨List.mem_of_getElem? (i := 344) (by decide +kernel), by decide +kernel⟩
theorem tg345 : TG (.instanceMethod yX3_asText) := ⟨List.mem_of_getElem? (i := 345) (by decide +kernel), by decide +kernel⟩
theorem tg346 : TG (.selects yX3_asText.cls yX3_asText yX3_asText) := ⟨List.mem_of_getElem? (i := 346) (by decide +kernel), by decide +kernel⟩
theorem lk_X0_103 : LV RX0 103 yX3_asText cX3_asText 3 (some .int) 2 := ⟨tg344, tg345, tg346, tg67, tg347, ⟨by decide +kernel, by decide +kernel, by decide +kernel⟩⟩
theorem tg355 : TG (.code yX0_fillRow cX0_fillRow 10 (some .int)) := ⟨List.mem_of_getElem? (i := 355) (by decide +kernel), by decide +kernel⟩
theorem tg352 : TG (.methodLink RX0 106 yX0_fillRow) := ⟨List.mem_of_getElem? (i := 352) (by decide +kernel), by decide +kernel⟩
theorem tg354 : TG (.instanceMethod yX0_fillRow) := ⟨List.mem_of_getElem? (i := 354) (by decide +kernel), by decide +kernel⟩
theorem tg12 : TG (.selects yX0_fillRow.cls yX0_fillRow yX0_fillRow) := ⟨List.mem_of_getElem? (i := 12) (by decide +kernel), by decide +kernel⟩
theorem lk_X0_106 : LV RX0 106 yX0_fillRow cX0_fillRow 10 (some .int) 4 := ⟨tg352, tg354, tg12, tg66, tg355, ⟨by decide +kernel, by decide +kernel, by decide +kernel⟩⟩
theorem tg175 : TG (.fieldLink RX0 110 (TX3 8).1 (TX3 8).2.1 (TX3 8).2.2.1) := ⟨List.mem_of_getElem? (i := 175) (by decide +kernel), by decide +kernel⟩
theorem fl_X0_110 : FL RX0 110 4 8 RX3 TX3 10 := ⟨rfl, by decide, tg175, us_X3⟩
theorem tg359 : TG (.code yX3_putInRow cX3_putInRow 4 none) := ⟨List.mem_of_getElem? (i := 359) (by decide +kernel), by decide +kernel⟩
theorem tg356 : TG (.methodLink RX0 114 yX3_putInRow) := ⟨List.mem_of_getElem? (i := 356) (by decide +kernel), by decide +kernel⟩
theorem tg357 : TG (.instanceMethod yX3_putInRow) := ⟨List.mem_of_getElem? (i := 357) (by decide +kernel), by decide +kernel⟩
theorem tg358 : TG (.selects yX3_putInRow.cls yX3_putInRow yX3_putInRow) := ⟨List.mem_of_getElem? (i := 358) (by decide +kernel), by decide +kernel⟩
theorem lk_X0_114 : LV RX0 114 yX3_putInRow cX3_putInRow 4 none 2 := ⟨tg356, tg357, tg358, tg67, tg359, ⟨by decide +kernel, by decide +kernel, by decide +kernel⟩⟩
theorem tg303 : TG (.constantDouble RX0 118 (4611686018427387904)) := ⟨List.mem_of_getElem? (i := 303) (by decide +kernel), by decide +kernel⟩
theorem tg306 : TG (.code yX5_scaled cX5_scaled 8 (some .double)) := ⟨List.mem_of_getElem? (i := 306) (by decide +kernel), by decide +kernel⟩
theorem tg305 : TG (.static yX5_scaled) := ⟨List.mem_of_getElem? (i := 305) (by decide +kernel), by decide +kernel⟩
theorem lk_X0_120 : LSN RX0 120 yX5_scaled "TokenReader" cX5_scaled 8 (some .double) 3 := ⟨(by decide +kernel), tg305, tg62, tg306, ⟨by decide +kernel, by decide +kernel, by decide +kernel⟩⟩
theorem tg321 : TG (.constant RX0 124 (8388607)) := ⟨List.mem_of_getElem? (i := 321) (by decide +kernel), by decide +kernel⟩
theorem tg322 : TG (.constant RX0 125 (8388608)) := ⟨List.mem_of_getElem? (i := 322) (by decide +kernel), by decide +kernel⟩
theorem tg339 : TG (.constant RX0 126 (65535)) := ⟨List.mem_of_getElem? (i := 339) (by decide +kernel), by decide +kernel⟩
theorem tg91 : TG (.fieldLink RX1 9 (TX1 0).1 (TX1 0).2.1 (TX1 0).2.2.1) := ⟨List.mem_of_getElem? (i := 91) (by decide +kernel), by decide +kernel⟩
theorem fl_X1_9 : FL RX1 9 2 0 RX1 TX1 4 := ⟨rfl, by decide, tg91, us_X1⟩
theorem tg92 : TG (.fieldLink RX1 15 (TX1 1).1 (TX1 1).2.1 (TX1 1).2.2.1) := ⟨List.mem_of_getElem? (i := 92) (by decide +kernel), by decide +kernel⟩
theorem fl_X1_15 : FL RX1 15 2 1 RX1 TX1 4 := ⟨rfl, by decide, tg92, us_X1⟩
theorem tg97 : TG (.fieldLink RX1 19 (TX1 2).1 (TX1 2).2.1 (TX1 2).2.2.1) := ⟨List.mem_of_getElem? (i := 97) (by decide +kernel), by decide +kernel⟩
theorem fl_X1_19 : FL RX1 19 2 2 RX1 TX1 4 := ⟨rfl, by decide, tg97, us_X1⟩
theorem tg100 : TG (.fieldLink RX1 22 (TX1 3).1 (TX1 3).2.1 (TX1 3).2.2.1) := ⟨List.mem_of_getElem? (i := 100) (by decide +kernel), by decide +kernel⟩
theorem fl_X1_22 : FL RX1 22 2 3 RX1 TX1 4 := ⟨rfl, by decide, tg100, us_X1⟩
theorem tg247 : TG (.code yX1_has cX1_has 2 (some .boolean)) := ⟨List.mem_of_getElem? (i := 247) (by decide +kernel), by decide +kernel⟩
theorem tg244 : TG (.methodLink RX1 26 yX1_has) := ⟨List.mem_of_getElem? (i := 244) (by decide +kernel), by decide +kernel⟩
theorem tg245 : TG (.instanceMethod yX1_has) := ⟨List.mem_of_getElem? (i := 245) (by decide +kernel), by decide +kernel⟩
theorem tg246 : TG (.selects yX1_has.cls yX1_has yX1_has) := ⟨List.mem_of_getElem? (i := 246) (by decide +kernel), by decide +kernel⟩
theorem lk_X1_26 : LV RX1 26 yX1_has cX1_has 2 (some .boolean) 1 := ⟨tg244, tg245, tg246, tg63, tg247, ⟨by decide +kernel, by decide +kernel, by decide +kernel⟩⟩
theorem tg240 : TG (.methodLink RX1 30 yX1_at) := ⟨List.mem_of_getElem? (i := 240) (by decide +kernel), by decide +kernel⟩
theorem lk_X1_30 : LV RX1 30 yX1_at cX1_at 2 (some .int) 1 := ⟨tg240, tg241, tg242, tg63, tg243, ⟨by decide +kernel, by decide +kernel, by decide +kernel⟩⟩
theorem tg250 : TG (.code yX1_isWhite cX1_isWhite 1 (some .boolean)) := ⟨List.mem_of_getElem? (i := 250) (by decide +kernel), by decide +kernel⟩
theorem tg248 : TG (.methodLink RX1 34 yX1_isWhite) := ⟨List.mem_of_getElem? (i := 248) (by decide +kernel), by decide +kernel⟩
theorem tg249 : TG (.static yX1_isWhite) := ⟨List.mem_of_getElem? (i := 249) (by decide +kernel), by decide +kernel⟩
theorem lk_X1_34 : LSt RX1 34 yX1_isWhite cX1_isWhite 1 (some .boolean) 1 := ⟨tg248, tg249, tg63, tg250, ⟨by decide +kernel, by decide +kernel, by decide +kernel⟩⟩
theorem tg375 : TG (.code yX1_isPlain cX1_isPlain 1 (some .boolean)) := ⟨List.mem_of_getElem? (i := 375) (by decide +kernel), by decide +kernel⟩
theorem tg373 : TG (.methodLink RX1 37 yX1_isPlain) := ⟨List.mem_of_getElem? (i := 373) (by decide +kernel), by decide +kernel⟩
theorem tg374 : TG (.static yX1_isPlain) := ⟨List.mem_of_getElem? (i := 374) (by decide +kernel), by decide +kernel⟩
theorem lk_X1_37 : LSt RX1 37 yX1_isPlain cX1_isPlain 1 (some .boolean) 1 := ⟨tg373, tg374, tg63, tg375, ⟨by decide +kernel, by decide +kernel, by decide +kernel⟩⟩
theorem tg161 : TG (.fieldLink RX1 40 (TX3 1).1 (TX3 1).2.1 (TX3 1).2.2.1) := ⟨List.mem_of_getElem? (i := 161) (by decide +kernel), by decide +kernel⟩
theorem fl_X1_40 : FL RX1 40 4 1 RX3 TX3 10 := ⟨rfl, by decide, tg161, us_X3⟩
theorem tg378 : TG (.code yX1_isOwn cX1_isOwn 1 (some .boolean)) := ⟨List.mem_of_getElem? (i := 378) (by decide +kernel), by decide +kernel⟩
theorem tg376 : TG (.methodLink RX1 45 yX1_isOwn) := ⟨List.mem_of_getElem? (i := 376) (by decide +kernel), by decide +kernel⟩
theorem tg377 : TG (.static yX1_isOwn) := ⟨List.mem_of_getElem? (i := 377) (by decide +kernel), by decide +kernel⟩
theorem lk_X1_45 : LSt RX1 45 yX1_isOwn cX1_isOwn 1 (some .boolean) 1 := ⟨tg376, tg377, tg63, tg378, ⟨by decide +kernel, by decide +kernel, by decide +kernel⟩⟩
theorem tg132 : TG (.fieldLink RX2 9 (TX2 0).1 (TX2 0).2.1 (TX2 0).2.2.1) := ⟨List.mem_of_getElem? (i := 132) (by decide +kernel), by decide +kernel⟩
theorem fl_X2_9 : FL RX2 9 3 0 RX2 TX2 1 := ⟨rfl, by decide, tg132, us_X2⟩
theorem tg154 : TG (.fieldLink RX2 15 (TX3 0).1 (TX3 0).2.1 (TX3 0).2.2.1) := ⟨List.mem_of_getElem? (i := 154) (by decide +kernel), by decide +kernel⟩
theorem fl_X2_15 : FL RX2 15 4 0 RX3 TX3 10 := ⟨rfl, by decide, tg154, us_X3⟩
theorem tg93 : TG (.fieldLink RX2 21 (TX1 1).1 (TX1 1).2.1 (TX1 1).2.2.1) := ⟨List.mem_of_getElem? (i := 93) (by decide +kernel), by decide +kernel⟩
theorem fl_X2_21 : FL RX2 21 2 1 RX1 TX1 4 := ⟨rfl, by decide, tg93, us_X1⟩
theorem tg385 : TG (.methodLink RX2 26 yX1_at) := ⟨List.mem_of_getElem? (i := 385) (by decide +kernel), by decide +kernel⟩
theorem lk_X2_26 : LV RX2 26 yX1_at cX1_at 2 (some .int) 1 := ⟨tg385, tg241, tg242, tg63, tg243, ⟨by decide +kernel, by decide +kernel, by decide +kernel⟩⟩
theorem tg388 : TG (.code yX2_wholeString cX2_wholeString 2 (some .int)) := ⟨List.mem_of_getElem? (i := 388) (by decide +kernel), by decide +kernel⟩
theorem tg65 : TG (.initialized yX2_wholeString.cls) := ⟨List.mem_of_getElem? (i := 65) (by decide +kernel), by decide +kernel⟩
theorem tg386 : TG (.methodLink RX2 30 yX2_wholeString) := ⟨List.mem_of_getElem? (i := 386) (by decide +kernel), by decide +kernel⟩
theorem tg387 : TG (.static yX2_wholeString) := ⟨List.mem_of_getElem? (i := 387) (by decide +kernel), by decide +kernel⟩
theorem lk_X2_30 : LSt RX2 30 yX2_wholeString cX2_wholeString 2 (some .int) 2 := ⟨tg386, tg387, tg65, tg388, ⟨by decide +kernel, by decide +kernel, by decide +kernel⟩⟩
theorem tg393 : TG (.code yX2_putOne cX2_putOne 5 (some .int)) := ⟨List.mem_of_getElem? (i := 393) (by decide +kernel), by decide +kernel⟩
theorem tg390 : TG (.methodLink RX2 34 yX2_putOne) := ⟨List.mem_of_getElem? (i := 390) (by decide +kernel), by decide +kernel⟩
theorem tg392 : TG (.instanceMethod yX2_putOne) := ⟨List.mem_of_getElem? (i := 392) (by decide +kernel), by decide +kernel⟩
theorem tg14 : TG (.selects yX2_putOne.cls yX2_putOne yX2_putOne) := ⟨List.mem_of_getElem? (i := 14) (by decide +kernel), by decide +kernel⟩
theorem lk_X2_34 : LV RX2 34 yX2_putOne cX2_putOne 5 (some .int) 3 := ⟨tg390, tg392, tg14, tg65, tg393, ⟨by decide +kernel, by decide +kernel, by decide +kernel⟩⟩
theorem tg420 : TG (.methodLink RX2 44 yX1_lacking) := ⟨List.mem_of_getElem? (i := 420) (by decide +kernel), by decide +kernel⟩
theorem lk_X2_44 : LV RX2 44 yX1_lacking cX1_lacking 2 (some .int) 1 := ⟨tg420, tg277, tg278, tg63, tg279, ⟨by decide +kernel, by decide +kernel, by decide +kernel⟩⟩
theorem tg397 : TG (.code yX2_putEscaped cX2_putEscaped 5 (some .int)) := ⟨List.mem_of_getElem? (i := 397) (by decide +kernel), by decide +kernel⟩
theorem tg394 : TG (.methodLink RX2 48 yX2_putEscaped) := ⟨List.mem_of_getElem? (i := 394) (by decide +kernel), by decide +kernel⟩
theorem tg396 : TG (.instanceMethod yX2_putEscaped) := ⟨List.mem_of_getElem? (i := 396) (by decide +kernel), by decide +kernel⟩
theorem tg15 : TG (.selects yX2_putEscaped.cls yX2_putEscaped yX2_putEscaped) := ⟨List.mem_of_getElem? (i := 15) (by decide +kernel), by decide +kernel⟩
theorem lk_X2_48 : LV RX2 48 yX2_putEscaped cX2_putEscaped 5 (some .int) 2 := ⟨tg394, tg396, tg15, tg65, tg397, ⟨by decide +kernel, by decide +kernel, by decide +kernel⟩⟩
theorem tg401 : TG (.code yX2_lineEndWidth cX2_lineEndWidth 3 (some .int)) := ⟨List.mem_of_getElem? (i := 401) (by decide +kernel), by decide +kernel⟩
theorem tg398 : TG (.methodLink RX2 51 yX2_lineEndWidth) := ⟨List.mem_of_getElem? (i := 398) (by decide +kernel), by decide +kernel⟩
theorem tg400 : TG (.instanceMethod yX2_lineEndWidth) := ⟨List.mem_of_getElem? (i := 400) (by decide +kernel), by decide +kernel⟩
theorem tg16 : TG (.selects yX2_lineEndWidth.cls yX2_lineEndWidth yX2_lineEndWidth) := ⟨List.mem_of_getElem? (i := 16) (by decide +kernel), by decide +kernel⟩
theorem lk_X2_51 : LV RX2 51 yX2_lineEndWidth cX2_lineEndWidth 3 (some .int) 1 := ⟨tg398, tg400, tg16, tg65, tg401, ⟨by decide +kernel, by decide +kernel, by decide +kernel⟩⟩
theorem tg413 : TG (.methodLink RX2 54 yX3_put) := ⟨List.mem_of_getElem? (i := 413) (by decide +kernel), by decide +kernel⟩
theorem lk_X2_54 : LV RX2 54 yX3_put cX3_put 2 none 1 := ⟨tg413, tg341, tg342, tg67, tg343, ⟨by decide +kernel, by decide +kernel, by decide +kernel⟩⟩
theorem tg405 : TG (.code yX2_octalWidth cX2_octalWidth 3 (some .int)) := ⟨List.mem_of_getElem? (i := 405) (by decide +kernel), by decide +kernel⟩
theorem tg402 : TG (.methodLink RX2 58 yX2_octalWidth) := ⟨List.mem_of_getElem? (i := 402) (by decide +kernel), by decide +kernel⟩
theorem tg404 : TG (.instanceMethod yX2_octalWidth) := ⟨List.mem_of_getElem? (i := 404) (by decide +kernel), by decide +kernel⟩
theorem tg17 : TG (.selects yX2_octalWidth.cls yX2_octalWidth yX2_octalWidth) := ⟨List.mem_of_getElem? (i := 17) (by decide +kernel), by decide +kernel⟩
theorem lk_X2_58 : LV RX2 58 yX2_octalWidth cX2_octalWidth 3 (some .int) 1 := ⟨tg402, tg404, tg17, tg65, tg405, ⟨by decide +kernel, by decide +kernel, by decide +kernel⟩⟩
theorem tg412 : TG (.code yX2_octalAt cX2_octalAt 5 (some .int)) := ⟨List.mem_of_getElem? (i := 412) (by decide +kernel), by decide +kernel⟩
theorem tg409 : TG (.methodLink RX2 61 yX2_octalAt) := ⟨List.mem_of_getElem? (i := 409) (by decide +kernel), by decide +kernel⟩
theorem tg411 : TG (.instanceMethod yX2_octalAt) := ⟨List.mem_of_getElem? (i := 411) (by decide +kernel), by decide +kernel⟩
theorem tg18 : TG (.selects yX2_octalAt.cls yX2_octalAt yX2_octalAt) := ⟨List.mem_of_getElem? (i := 18) (by decide +kernel), by decide +kernel⟩
theorem lk_X2_61 : LV RX2 61 yX2_octalAt cX2_octalAt 5 (some .int) 2 := ⟨tg409, tg411, tg18, tg65, tg412, ⟨by decide +kernel, by decide +kernel, by decide +kernel⟩⟩
theorem tg416 : TG (.code yX2_escaped cX2_escaped 1 (some .int)) := ⟨List.mem_of_getElem? (i := 416) (by decide +kernel), by decide +kernel⟩
theorem tg414 : TG (.methodLink RX2 64 yX2_escaped) := ⟨List.mem_of_getElem? (i := 414) (by decide +kernel), by decide +kernel⟩
theorem tg415 : TG (.static yX2_escaped) := ⟨List.mem_of_getElem? (i := 415) (by decide +kernel), by decide +kernel⟩
theorem lk_X2_64 : LSt RX2 64 yX2_escaped cX2_escaped 1 (some .int) 1 := ⟨tg414, tg415, tg65, tg416, ⟨by decide +kernel, by decide +kernel, by decide +kernel⟩⟩
theorem tg408 : TG (.code yX5_digitOf cX5_digitOf 1 (some .int)) := ⟨List.mem_of_getElem? (i := 408) (by decide +kernel), by decide +kernel⟩
theorem tg407 : TG (.static yX5_digitOf) := ⟨List.mem_of_getElem? (i := 407) (by decide +kernel), by decide +kernel⟩
theorem lk_X2_67 : LSN RX2 67 yX5_digitOf "TokenReader" cX5_digitOf 1 (some .int) 1 := ⟨(by decide +kernel), tg407, tg62, tg408, ⟨by decide +kernel, by decide +kernel, by decide +kernel⟩⟩
theorem tg434 : TG (.methodLink RX2 70 yX1_isWhite) := ⟨List.mem_of_getElem? (i := 434) (by decide +kernel), by decide +kernel⟩
theorem lk_X2_70 : LSt RX2 70 yX1_isWhite cX1_isWhite 1 (some .boolean) 1 := ⟨tg434, tg249, tg63, tg250, ⟨by decide +kernel, by decide +kernel, by decide +kernel⟩⟩
theorem tg453 : TG (.code yX2_putLastAlone cX2_putLastAlone 2 none) := ⟨List.mem_of_getElem? (i := 453) (by decide +kernel), by decide +kernel⟩
theorem tg451 : TG (.methodLink RX2 74 yX2_putLastAlone) := ⟨List.mem_of_getElem? (i := 451) (by decide +kernel), by decide +kernel⟩
theorem tg452 : TG (.static yX2_putLastAlone) := ⟨List.mem_of_getElem? (i := 452) (by decide +kernel), by decide +kernel⟩
theorem lk_X2_74 : LSt RX2 74 yX2_putLastAlone cX2_putLastAlone 2 none 2 := ⟨tg451, tg452, tg65, tg453, ⟨by decide +kernel, by decide +kernel, by decide +kernel⟩⟩
theorem tg442 : TG (.methodLink RX2 78 yX3_wrongByte) := ⟨List.mem_of_getElem? (i := 442) (by decide +kernel), by decide +kernel⟩
theorem lk_X2_78 : LV RX2 78 yX3_wrongByte cX3_wrongByte 3 (some .int) 2 := ⟨tg442, tg294, tg295, tg67, tg296, ⟨by decide +kernel, by decide +kernel, by decide +kernel⟩⟩
theorem tg438 : TG (.code yX2_endBase85 cX2_endBase85 9 (some .int)) := ⟨List.mem_of_getElem? (i := 438) (by decide +kernel), by decide +kernel⟩
theorem tg435 : TG (.methodLink RX2 81 yX2_endBase85) := ⟨List.mem_of_getElem? (i := 435) (by decide +kernel), by decide +kernel⟩
theorem tg437 : TG (.instanceMethod yX2_endBase85) := ⟨List.mem_of_getElem? (i := 437) (by decide +kernel), by decide +kernel⟩
theorem tg21 : TG (.selects yX2_endBase85.cls yX2_endBase85 yX2_endBase85) := ⟨List.mem_of_getElem? (i := 21) (by decide +kernel), by decide +kernel⟩
theorem lk_X2_81 : LV RX2 81 yX2_endBase85 cX2_endBase85 9 (some .int) 4 := ⟨tg435, tg437, tg21, tg65, tg438, ⟨by decide +kernel, by decide +kernel, by decide +kernel⟩⟩
theorem tg445 : TG (.code yX2_putHighest cX2_putHighest 5 none) := ⟨List.mem_of_getElem? (i := 445) (by decide +kernel), by decide +kernel⟩
theorem tg443 : TG (.methodLink RX2 85 yX2_putHighest) := ⟨List.mem_of_getElem? (i := 443) (by decide +kernel), by decide +kernel⟩
theorem tg444 : TG (.static yX2_putHighest) := ⟨List.mem_of_getElem? (i := 444) (by decide +kernel), by decide +kernel⟩
theorem lk_X2_85 : LSt RX2 85 yX2_putHighest cX2_putHighest 5 none 3 := ⟨tg443, tg444, tg65, tg445, ⟨by decide +kernel, by decide +kernel, by decide +kernel⟩⟩
theorem tg439 : TG (.constantLong RX2 89 (85)) := ⟨List.mem_of_getElem? (i := 439) (by decide +kernel), by decide +kernel⟩
theorem tg446 : TG (.constantLong RX2 91 (33)) := ⟨List.mem_of_getElem? (i := 446) (by decide +kernel), by decide +kernel⟩
theorem tg441 : TG (.constantLong RX2 93 (4294967296)) := ⟨List.mem_of_getElem? (i := 441) (by decide +kernel), by decide +kernel⟩
theorem tg440 : TG (.constantLong RX2 95 (84)) := ⟨List.mem_of_getElem? (i := 440) (by decide +kernel), by decide +kernel⟩
theorem tg162 : TG (.fieldLink RX2 97 (TX3 1).1 (TX3 1).2.1 (TX3 1).2.2.1) := ⟨List.mem_of_getElem? (i := 162) (by decide +kernel), by decide +kernel⟩
theorem fl_X2_97 : FL RX2 97 4 1 RX3 TX3 10 := ⟨rfl, by decide, tg162, us_X3⟩
theorem tg389 : TG (.methodLink RX2 100 yX3_asText) := ⟨List.mem_of_getElem? (i := 389) (by decide +kernel), by decide +kernel⟩
theorem lk_X2_100 : LV RX2 100 yX3_asText cX3_asText 3 (some .int) 2 := ⟨tg389, tg345, tg346, tg67, tg347, ⟨by decide +kernel, by decide +kernel, by decide +kernel⟩⟩
theorem tg167 : TG (.fieldLink RX3 9 (TX3 4).1 (TX3 4).2.1 (TX3 4).2.2.1) := ⟨List.mem_of_getElem? (i := 167) (by decide +kernel), by decide +kernel⟩
theorem fl_X3_9 : FL RX3 9 4 4 RX3 TX3 10 := ⟨rfl, by decide, tg167, us_X3⟩
theorem tg170 : TG (.fieldLink RX3 15 (TX3 6).1 (TX3 6).2.1 (TX3 6).2.2.1) := ⟨List.mem_of_getElem? (i := 170) (by decide +kernel), by decide +kernel⟩
theorem fl_X3_15 : FL RX3 15 4 6 RX3 TX3 10 := ⟨rfl, by decide, tg170, us_X3⟩
theorem tg172 : TG (.fieldLink RX3 19 (TX3 7).1 (TX3 7).2.1 (TX3 7).2.2.1) := ⟨List.mem_of_getElem? (i := 172) (by decide +kernel), by decide +kernel⟩
theorem fl_X3_19 : FL RX3 19 4 7 RX3 TX3 10 := ⟨rfl, by decide, tg172, us_X3⟩
theorem tg153 : TG (.fieldLink RX3 23 (TX3 0).1 (TX3 0).2.1 (TX3 0).2.2.1) := ⟨List.mem_of_getElem? (i := 153) (by decide +kernel), by decide +kernel⟩
theorem fl_X3_23 : FL RX3 23 4 0 RX3 TX3 10 := ⟨rfl, by decide, tg153, us_X3⟩
theorem tg157 : TG (.fieldLink RX3 27 (TX3 1).1 (TX3 1).2.1 (TX3 1).2.2.1) := ⟨List.mem_of_getElem? (i := 157) (by decide +kernel), by decide +kernel⟩
theorem fl_X3_27 : FL RX3 27 4 1 RX3 TX3 10 := ⟨rfl, by decide, tg157, us_X3⟩
theorem tg163 : TG (.fieldLink RX3 30 (TX3 2).1 (TX3 2).2.1 (TX3 2).2.2.1) := ⟨List.mem_of_getElem? (i := 163) (by decide +kernel), by decide +kernel⟩
theorem fl_X3_30 : FL RX3 30 4 2 RX3 TX3 10 := ⟨rfl, by decide, tg163, us_X3⟩
theorem tg165 : TG (.fieldLink RX3 34 (TX3 3).1 (TX3 3).2.1 (TX3 3).2.2.1) := ⟨List.mem_of_getElem? (i := 165) (by decide +kernel), by decide +kernel⟩
theorem fl_X3_34 : FL RX3 34 4 3 RX3 TX3 10 := ⟨rfl, by decide, tg165, us_X3⟩
theorem tg168 : TG (.fieldLink RX3 38 (TX3 5).1 (TX3 5).2.1 (TX3 5).2.2.1) := ⟨List.mem_of_getElem? (i := 168) (by decide +kernel), by decide +kernel⟩
theorem fl_X3_38 : FL RX3 38 4 5 RX3 TX3 10 := ⟨rfl, by decide, tg168, us_X3⟩
theorem tg176 : TG (.fieldLink RX3 41 (TX3 9).1 (TX3 9).2.1 (TX3 9).2.2.1) := ⟨List.mem_of_getElem? (i := 176) (by decide +kernel), by decide +kernel⟩
theorem fl_X3_41 : FL RX3 41 4 9 RX3 TX3 10 := ⟨rfl, by decide, tg176, us_X3⟩
theorem tg119 : TG (.fieldLink RX4 9 (TX4 1).1 (TX4 1).2.1 (TX4 1).2.2.1) := ⟨List.mem_of_getElem? (i := 119) (by decide +kernel), by decide +kernel⟩
theorem fl_X4_9 : FL RX4 9 5 1 RX4 TX4 2 := ⟨rfl, by decide, tg119, us_X4⟩
theorem tg118 : TG (.fieldLink RX4 15 (TX4 0).1 (TX4 0).2.1 (TX4 0).2.2.1) := ⟨List.mem_of_getElem? (i := 118) (by decide +kernel), by decide +kernel⟩
theorem fl_X4_15 : FL RX4 15 5 0 RX4 TX4 2 := ⟨rfl, by decide, tg118, us_X4⟩
theorem tg152 : TG (.fieldLink RX4 19 (TX3 0).1 (TX3 0).2.1 (TX3 0).2.2.1) := ⟨List.mem_of_getElem? (i := 152) (by decide +kernel), by decide +kernel⟩
theorem fl_X4_19 : FL RX4 19 4 0 RX3 TX3 10 := ⟨rfl, by decide, tg152, us_X3⟩
theorem tg364 : TG (.methodLink RX4 24 yX1_at) := ⟨List.mem_of_getElem? (i := 364) (by decide +kernel), by decide +kernel⟩
theorem lk_X4_24 : LV RX4 24 yX1_at cX1_at 2 (some .int) 1 := ⟨tg364, tg241, tg242, tg63, tg243, ⟨by decide +kernel, by decide +kernel, by decide +kernel⟩⟩
theorem tg368 : TG (.code yX4_readText cX4_readText 6 (some .int)) := ⟨List.mem_of_getElem? (i := 368) (by decide +kernel), by decide +kernel⟩
theorem tg64 : TG (.initialized yX4_readText.cls) := ⟨List.mem_of_getElem? (i := 64) (by decide +kernel), by decide +kernel⟩
theorem tg365 : TG (.methodLink RX4 30 yX4_readText) := ⟨List.mem_of_getElem? (i := 365) (by decide +kernel), by decide +kernel⟩
theorem tg367 : TG (.instanceMethod yX4_readText) := ⟨List.mem_of_getElem? (i := 367) (by decide +kernel), by decide +kernel⟩
theorem tg13 : TG (.selects yX4_readText.cls yX4_readText yX4_readText) := ⟨List.mem_of_getElem? (i := 13) (by decide +kernel), by decide +kernel⟩
theorem lk_X4_30 : LV RX4 30 yX4_readText cX4_readText 6 (some .int) 3 := ⟨tg365, tg367, tg13, tg64, tg368, ⟨by decide +kernel, by decide +kernel, by decide +kernel⟩⟩
theorem tg473 : TG (.code yX4_readInteger cX4_readInteger 7 (some .int)) := ⟨List.mem_of_getElem? (i := 473) (by decide +kernel), by decide +kernel⟩
theorem tg470 : TG (.methodLink RX4 34 yX4_readInteger) := ⟨List.mem_of_getElem? (i := 470) (by decide +kernel), by decide +kernel⟩
theorem tg472 : TG (.instanceMethod yX4_readInteger) := ⟨List.mem_of_getElem? (i := 472) (by decide +kernel), by decide +kernel⟩
theorem tg25 : TG (.selects yX4_readInteger.cls yX4_readInteger yX4_readInteger) := ⟨List.mem_of_getElem? (i := 25) (by decide +kernel), by decide +kernel⟩
theorem lk_X4_34 : LV RX4 34 yX4_readInteger cX4_readInteger 7 (some .int) 1 := ⟨tg470, tg472, tg25, tg64, tg473, ⟨by decide +kernel, by decide +kernel, by decide +kernel⟩⟩
theorem tg498 : TG (.code yX4_readWithBase cX4_readWithBase 7 (some .int)) := ⟨List.mem_of_getElem? (i := 498) (by decide +kernel), by decide +kernel⟩
theorem tg495 : TG (.methodLink RX4 38 yX4_readWithBase) := ⟨List.mem_of_getElem? (i := 495) (by decide +kernel), by decide +kernel⟩
theorem tg497 : TG (.instanceMethod yX4_readWithBase) := ⟨List.mem_of_getElem? (i := 497) (by decide +kernel), by decide +kernel⟩
theorem tg26 : TG (.selects yX4_readWithBase.cls yX4_readWithBase yX4_readWithBase) := ⟨List.mem_of_getElem? (i := 26) (by decide +kernel), by decide +kernel⟩
theorem lk_X4_38 : LV RX4 38 yX4_readWithBase cX4_readWithBase 7 (some .int) 1 := ⟨tg495, tg497, tg26, tg64, tg498, ⟨by decide +kernel, by decide +kernel, by decide +kernel⟩⟩
theorem tg502 : TG (.code yX4_readReal cX4_readReal 11 (some .int)) := ⟨List.mem_of_getElem? (i := 502) (by decide +kernel), by decide +kernel⟩
theorem tg499 : TG (.methodLink RX4 41 yX4_readReal) := ⟨List.mem_of_getElem? (i := 499) (by decide +kernel), by decide +kernel⟩
theorem tg501 : TG (.instanceMethod yX4_readReal) := ⟨List.mem_of_getElem? (i := 501) (by decide +kernel), by decide +kernel⟩
theorem tg27 : TG (.selects yX4_readReal.cls yX4_readReal yX4_readReal) := ⟨List.mem_of_getElem? (i := 27) (by decide +kernel), by decide +kernel⟩
theorem lk_X4_41 : LV RX4 41 yX4_readReal cX4_readReal 11 (some .int) 1 := ⟨tg499, tg501, tg27, tg64, tg502, ⟨by decide +kernel, by decide +kernel, by decide +kernel⟩⟩
theorem tg372 : TG (.code yX1_wordEnd cX1_wordEnd 3 (some .int)) := ⟨List.mem_of_getElem? (i := 372) (by decide +kernel), by decide +kernel⟩
theorem tg369 : TG (.methodLink RX4 44 yX1_wordEnd) := ⟨List.mem_of_getElem? (i := 369) (by decide +kernel), by decide +kernel⟩
theorem tg370 : TG (.instanceMethod yX1_wordEnd) := ⟨List.mem_of_getElem? (i := 370) (by decide +kernel), by decide +kernel⟩
theorem tg371 : TG (.selects yX1_wordEnd.cls yX1_wordEnd yX1_wordEnd) := ⟨List.mem_of_getElem? (i := 371) (by decide +kernel), by decide +kernel⟩
theorem lk_X4_44 : LV RX4 44 yX1_wordEnd cX1_wordEnd 3 (some .int) 1 := ⟨tg369, tg370, tg371, tg63, tg372, ⟨by decide +kernel, by decide +kernel, by decide +kernel⟩⟩
theorem tg96 : TG (.fieldLink RX4 47 (TX1 1).1 (TX1 1).2.1 (TX1 1).2.2.1) := ⟨List.mem_of_getElem? (i := 96) (by decide +kernel), by decide +kernel⟩
theorem fl_X4_47 : FL RX4 47 2 1 RX1 TX1 4 := ⟨rfl, by decide, tg96, us_X1⟩
theorem tg101 : TG (.fieldLink RX4 50 (TX1 3).1 (TX1 3).2.1 (TX1 3).2.2.1) := ⟨List.mem_of_getElem? (i := 101) (by decide +kernel), by decide +kernel⟩
theorem fl_X4_50 : FL RX4 50 2 3 RX1 TX1 4 := ⟨rfl, by decide, tg101, us_X1⟩
theorem tg379 : TG (.methodLink RX4 54 yX3_put) := ⟨List.mem_of_getElem? (i := 379) (by decide +kernel), by decide +kernel⟩
theorem lk_X4_54 : LV RX4 54 yX3_put cX3_put 2 none 1 := ⟨tg379, tg341, tg342, tg67, tg343, ⟨by decide +kernel, by decide +kernel, by decide +kernel⟩⟩
theorem tg160 : TG (.fieldLink RX4 58 (TX3 1).1 (TX3 1).2.1 (TX3 1).2.2.1) := ⟨List.mem_of_getElem? (i := 160) (by decide +kernel), by decide +kernel⟩
theorem fl_X4_58 : FL RX4 58 4 1 RX3 TX3 10 := ⟨rfl, by decide, tg160, us_X3⟩
theorem tg380 : TG (.methodLink RX4 61 yX3_asText) := ⟨List.mem_of_getElem? (i := 380) (by decide +kernel), by decide +kernel⟩
theorem lk_X4_61 : LV RX4 61 yX3_asText cX3_asText 3 (some .int) 2 := ⟨tg380, tg345, tg346, tg67, tg347, ⟨by decide +kernel, by decide +kernel, by decide +kernel⟩⟩
theorem tg476 : TG (.code yX4_behindSign cX4_behindSign 3 (some .int)) := ⟨List.mem_of_getElem? (i := 476) (by decide +kernel), by decide +kernel⟩
theorem tg474 : TG (.methodLink RX4 65 yX4_behindSign) := ⟨List.mem_of_getElem? (i := 474) (by decide +kernel), by decide +kernel⟩
theorem tg475 : TG (.static yX4_behindSign) := ⟨List.mem_of_getElem? (i := 475) (by decide +kernel), by decide +kernel⟩
theorem lk_X4_65 : LSt RX4 65 yX4_behindSign cX4_behindSign 3 (some .int) 2 := ⟨tg474, tg475, tg64, tg476, ⟨by decide +kernel, by decide +kernel, by decide +kernel⟩⟩
theorem tg169 : TG (.fieldLink RX4 69 (TX3 5).1 (TX3 5).2.1 (TX3 5).2.2.1) := ⟨List.mem_of_getElem? (i := 169) (by decide +kernel), by decide +kernel⟩
theorem fl_X4_69 : FL RX4 69 4 5 RX3 TX3 10 := ⟨rfl, by decide, tg169, us_X3⟩
theorem tg483 : TG (.code yX4_digitsEnd cX4_digitsEnd 4 (some .int)) := ⟨List.mem_of_getElem? (i := 483) (by decide +kernel), by decide +kernel⟩
theorem tg481 : TG (.methodLink RX4 72 yX4_digitsEnd) := ⟨List.mem_of_getElem? (i := 481) (by decide +kernel), by decide +kernel⟩
theorem tg482 : TG (.static yX4_digitsEnd) := ⟨List.mem_of_getElem? (i := 482) (by decide +kernel), by decide +kernel⟩
theorem lk_X4_72 : LSt RX4 72 yX4_digitsEnd cX4_digitsEnd 4 (some .int) 3 := ⟨tg481, tg482, tg64, tg483, ⟨by decide +kernel, by decide +kernel, by decide +kernel⟩⟩
theorem tg487 : TG (.code yX4_valueOf cX4_valueOf 7 (some .long)) := ⟨List.mem_of_getElem? (i := 487) (by decide +kernel), by decide +kernel⟩
theorem tg485 : TG (.methodLink RX4 75 yX4_valueOf) := ⟨List.mem_of_getElem? (i := 485) (by decide +kernel), by decide +kernel⟩
theorem tg486 : TG (.static yX4_valueOf) := ⟨List.mem_of_getElem? (i := 486) (by decide +kernel), by decide +kernel⟩
theorem lk_X4_75 : LSt RX4 75 yX4_valueOf cX4_valueOf 7 (some .long) 4 := ⟨tg485, tg486, tg64, tg487, ⟨by decide +kernel, by decide +kernel, by decide +kernel⟩⟩
theorem tg480 : TG (.code yX3_textAt cX3_textAt 2 (some .int)) := ⟨List.mem_of_getElem? (i := 480) (by decide +kernel), by decide +kernel⟩
theorem tg477 : TG (.methodLink RX4 79 yX3_textAt) := ⟨List.mem_of_getElem? (i := 477) (by decide +kernel), by decide +kernel⟩
theorem tg478 : TG (.instanceMethod yX3_textAt) := ⟨List.mem_of_getElem? (i := 478) (by decide +kernel), by decide +kernel⟩
theorem tg479 : TG (.selects yX3_textAt.cls yX3_textAt yX3_textAt) := ⟨List.mem_of_getElem? (i := 479) (by decide +kernel), by decide +kernel⟩
theorem lk_X4_79 : LV RX4 79 yX3_textAt cX3_textAt 2 (some .int) 1 := ⟨tg477, tg478, tg479, tg67, tg480, ⟨by decide +kernel, by decide +kernel, by decide +kernel⟩⟩
theorem tg492 : TG (.constantLong RX4 82 (-2147483648)) := ⟨List.mem_of_getElem? (i := 492) (by decide +kernel), by decide +kernel⟩
theorem tg493 : TG (.constantLong RX4 84 (2147483647)) := ⟨List.mem_of_getElem? (i := 493) (by decide +kernel), by decide +kernel⟩
theorem tg494 : TG (.methodLink RX4 86 yX3_asWhole) := ⟨List.mem_of_getElem? (i := 494) (by decide +kernel), by decide +kernel⟩
theorem lk_X4_86 : LV RX4 86 yX3_asWhole cX3_asWhole 4 (some .int) 2 := ⟨tg494, tg286, tg287, tg67, tg288, ⟨by decide +kernel, by decide +kernel, by decide +kernel⟩⟩
theorem tg488 : TG (.constantLong RX4 90 (4294967296)) := ⟨List.mem_of_getElem? (i := 488) (by decide +kernel), by decide +kernel⟩
theorem tg505 : TG (.code yX4_isExponent cX4_isExponent 5 (some .boolean)) := ⟨List.mem_of_getElem? (i := 505) (by decide +kernel), by decide +kernel⟩
theorem tg503 : TG (.methodLink RX4 92 yX4_isExponent) := ⟨List.mem_of_getElem? (i := 503) (by decide +kernel), by decide +kernel⟩
theorem tg504 : TG (.static yX4_isExponent) := ⟨List.mem_of_getElem? (i := 504) (by decide +kernel), by decide +kernel⟩
theorem lk_X4_92 : LSt RX4 92 yX4_isExponent cX4_isExponent 5 (some .boolean) 2 := ⟨tg503, tg504, tg64, tg505, ⟨by decide +kernel, by decide +kernel, by decide +kernel⟩⟩
theorem tg508 : TG (.code yX4_exponentAt cX4_exponentAt 3 (some .int)) := ⟨List.mem_of_getElem? (i := 508) (by decide +kernel), by decide +kernel⟩
theorem tg506 : TG (.methodLink RX4 96 yX4_exponentAt) := ⟨List.mem_of_getElem? (i := 506) (by decide +kernel), by decide +kernel⟩
theorem tg507 : TG (.static yX4_exponentAt) := ⟨List.mem_of_getElem? (i := 507) (by decide +kernel), by decide +kernel⟩
theorem lk_X4_96 : LSt RX4 96 yX4_exponentAt cX4_exponentAt 3 (some .int) 2 := ⟨tg506, tg507, tg64, tg508, ⟨by decide +kernel, by decide +kernel, by decide +kernel⟩⟩
theorem tg511 : TG (.code yX4_digitsAsReal cX4_digitsAsReal 6 (some .double)) := ⟨List.mem_of_getElem? (i := 511) (by decide +kernel), by decide +kernel⟩
theorem tg509 : TG (.methodLink RX4 99 yX4_digitsAsReal) := ⟨List.mem_of_getElem? (i := 509) (by decide +kernel), by decide +kernel⟩
theorem tg510 : TG (.static yX4_digitsAsReal) := ⟨List.mem_of_getElem? (i := 510) (by decide +kernel), by decide +kernel⟩
theorem lk_X4_99 : LSt RX4 99 yX4_digitsAsReal cX4_digitsAsReal 6 (some .double) 3 := ⟨tg509, tg510, tg64, tg511, ⟨by decide +kernel, by decide +kernel, by decide +kernel⟩⟩
theorem tg512 : TG (.constantDouble RX4 103 (4621819117588971520)) := ⟨List.mem_of_getElem? (i := 512) (by decide +kernel), by decide +kernel⟩
theorem lk_X4_105 : LSN RX4 105 yX5_scaled "TokenReader" cX5_scaled 8 (some .double) 3 := ⟨(by decide +kernel), tg305, tg62, tg306, ⟨by decide +kernel, by decide +kernel, by decide +kernel⟩⟩
theorem tg514 : TG (.constantDouble RX4 109 (9218868437227405311)) := ⟨List.mem_of_getElem? (i := 514) (by decide +kernel), by decide +kernel⟩
theorem tg515 : TG (.methodLink RX4 111 yX3_asReal) := ⟨List.mem_of_getElem? (i := 515) (by decide +kernel), by decide +kernel⟩
theorem lk_X4_111 : LV RX4 111 yX3_asReal cX3_asReal 3 (some .int) 1 := ⟨tg515, tg308, tg309, tg67, tg310, ⟨by decide +kernel, by decide +kernel, by decide +kernel⟩⟩
theorem lk_X4_115 : LSN RX4 115 yX5_digitOf "TokenReader" cX5_digitOf 1 (some .int) 1 := ⟨(by decide +kernel), tg407, tg62, tg408, ⟨by decide +kernel, by decide +kernel, by decide +kernel⟩⟩
theorem tg89 : TG (.code yX1_init cX1_init 1 none) := ⟨List.mem_of_getElem? (i := 89) (by decide +kernel), by decide +kernel⟩
theorem tg88 : TG (.instanceMethod yX1_init) := ⟨List.mem_of_getElem? (i := 88) (by decide +kernel), by decide +kernel⟩
theorem lk_X5_9 : LIN RX5 9 yX1_init "TokenReader" cX1_init 1 0 := ⟨(by decide +kernel), tg88, tg63, tg89, ⟨by decide +kernel, by decide +kernel, by decide +kernel⟩⟩
theorem tg200 : TG (.fieldLink RX5 10 (TX5 0).1 (TX5 0).2.1 (TX5 0).2.2.1) := ⟨List.mem_of_getElem? (i := 200) (by decide +kernel), by decide +kernel⟩
theorem fl_X5_10 : FL RX5 10 6 0 RX5 TX5 9 := ⟨rfl, by decide, tg200, us_X5⟩
theorem tg116 : TG (.code yX4_init cX4_init 2 none) := ⟨List.mem_of_getElem? (i := 116) (by decide +kernel), by decide +kernel⟩
theorem tg114 : TG (.methodLink RX5 18 yX4_init) := ⟨List.mem_of_getElem? (i := 114) (by decide +kernel), by decide +kernel⟩
theorem tg115 : TG (.instanceMethod yX4_init) := ⟨List.mem_of_getElem? (i := 115) (by decide +kernel), by decide +kernel⟩
theorem lk_X5_18 : LI RX5 18 yX4_init cX4_init 2 1 := ⟨tg114, tg115, tg64, tg116, ⟨by decide +kernel, by decide +kernel, by decide +kernel⟩⟩
theorem tg201 : TG (.fieldLink RX5 21 (TX5 1).1 (TX5 1).2.1 (TX5 1).2.2.1) := ⟨List.mem_of_getElem? (i := 201) (by decide +kernel), by decide +kernel⟩
theorem fl_X5_21 : FL RX5 21 6 1 RX5 TX5 9 := ⟨rfl, by decide, tg201, us_X5⟩
theorem tg130 : TG (.code yX2_init cX2_init 2 none) := ⟨List.mem_of_getElem? (i := 130) (by decide +kernel), by decide +kernel⟩
theorem tg128 : TG (.methodLink RX5 27 yX2_init) := ⟨List.mem_of_getElem? (i := 128) (by decide +kernel), by decide +kernel⟩
theorem tg129 : TG (.instanceMethod yX2_init) := ⟨List.mem_of_getElem? (i := 129) (by decide +kernel), by decide +kernel⟩
theorem lk_X5_27 : LI RX5 27 yX2_init cX2_init 2 1 := ⟨tg128, tg129, tg65, tg130, ⟨by decide +kernel, by decide +kernel, by decide +kernel⟩⟩
theorem tg202 : TG (.fieldLink RX5 28 (TX5 2).1 (TX5 2).2.1 (TX5 2).2.2.1) := ⟨List.mem_of_getElem? (i := 202) (by decide +kernel), by decide +kernel⟩
theorem fl_X5_28 : FL RX5 28 6 2 RX5 TX5 9 := ⟨rfl, by decide, tg202, us_X5⟩
theorem tg140 : TG (.code yX0_init cX0_init 2 none) := ⟨List.mem_of_getElem? (i := 140) (by decide +kernel), by decide +kernel⟩
theorem tg138 : TG (.methodLink RX5 34 yX0_init) := ⟨List.mem_of_getElem? (i := 138) (by decide +kernel), by decide +kernel⟩
theorem tg139 : TG (.instanceMethod yX0_init) := ⟨List.mem_of_getElem? (i := 139) (by decide +kernel), by decide +kernel⟩
theorem lk_X5_34 : LI RX5 34 yX0_init cX0_init 2 1 := ⟨tg138, tg139, tg66, tg140, ⟨by decide +kernel, by decide +kernel, by decide +kernel⟩⟩
theorem tg203 : TG (.fieldLink RX5 35 (TX5 3).1 (TX5 3).2.1 (TX5 3).2.2.1) := ⟨List.mem_of_getElem? (i := 203) (by decide +kernel), by decide +kernel⟩
theorem fl_X5_35 : FL RX5 35 6 3 RX5 TX5 9 := ⟨rfl, by decide, tg203, us_X5⟩
theorem tg204 : TG (.fieldLink RX5 39 (TX5 4).1 (TX5 4).2.1 (TX5 4).2.2.1) := ⟨List.mem_of_getElem? (i := 204) (by decide +kernel), by decide +kernel⟩
theorem fl_X5_39 : FL RX5 39 6 4 RX5 TX5 9 := ⟨rfl, by decide, tg204, us_X5⟩
theorem tg150 : TG (.code yX3_init cX3_init 1 none) := ⟨List.mem_of_getElem? (i := 150) (by decide +kernel), by decide +kernel⟩
theorem tg149 : TG (.instanceMethod yX3_init) := ⟨List.mem_of_getElem? (i := 149) (by decide +kernel), by decide +kernel⟩
theorem lk_X5_45 : LIN RX5 45 yX3_init "TokenReader" cX3_init 1 0 := ⟨(by decide +kernel), tg149, tg67, tg150, ⟨by decide +kernel, by decide +kernel, by decide +kernel⟩⟩
theorem tg206 : TG (.fieldLink RX5 46 (TX5 6).1 (TX5 6).2.1 (TX5 6).2.2.1) := ⟨List.mem_of_getElem? (i := 206) (by decide +kernel), by decide +kernel⟩
theorem fl_X5_46 : FL RX5 46 6 6 RX5 TX5 9 := ⟨rfl, by decide, tg206, us_X5⟩
theorem tg207 : TG (.fieldLink RX5 50 (TX5 7).1 (TX5 7).2.1 (TX5 7).2.2.1) := ⟨List.mem_of_getElem? (i := 207) (by decide +kernel), by decide +kernel⟩
theorem fl_X5_50 : FL RX5 50 6 7 RX5 TX5 9 := ⟨rfl, by decide, tg207, us_X5⟩
theorem tg99 : TG (.fieldLink RX5 53 (TX1 3).1 (TX1 3).2.1 (TX1 3).2.2.1) := ⟨List.mem_of_getElem? (i := 99) (by decide +kernel), by decide +kernel⟩
theorem fl_X5_53 : FL RX5 53 2 3 RX1 TX1 4 := ⟨rfl, by decide, tg99, us_X1⟩
theorem tg633 : TG (.code yX1_append cX1_append 2 (some .boolean)) := ⟨List.mem_of_getElem? (i := 633) (by decide +kernel), by decide +kernel⟩
theorem tg630 : TG (.methodLink RX5 64 yX1_append) := ⟨List.mem_of_getElem? (i := 630) (by decide +kernel), by decide +kernel⟩
theorem tg631 : TG (.instanceMethod yX1_append) := ⟨List.mem_of_getElem? (i := 631) (by decide +kernel), by decide +kernel⟩
theorem tg632 : TG (.selects yX1_append.cls yX1_append yX1_append) := ⟨List.mem_of_getElem? (i := 632) (by decide +kernel), by decide +kernel⟩
theorem lk_X5_64 : LV RX5 64 yX1_append cX1_append 2 (some .boolean) 1 := ⟨tg630, tg631, tg632, tg63, tg633, ⟨by decide +kernel, by decide +kernel, by decide +kernel⟩⟩
theorem tg94 : TG (.fieldLink RX5 73 (TX1 1).1 (TX1 1).2.1 (TX1 1).2.2.1) := ⟨List.mem_of_getElem? (i := 94) (by decide +kernel), by decide +kernel⟩
theorem fl_X5_73 : FL RX5 73 2 1 RX1 TX1 4 := ⟨rfl, by decide, tg94, us_X1⟩
theorem tg98 : TG (.fieldLink RX5 77 (TX1 2).1 (TX1 2).2.1 (TX1 2).2.2.1) := ⟨List.mem_of_getElem? (i := 98) (by decide +kernel), by decide +kernel⟩
theorem fl_X5_77 : FL RX5 77 2 2 RX1 TX1 4 := ⟨rfl, by decide, tg98, us_X1⟩
theorem tg239 : TG (.code yX1_firstNotWhite cX1_firstNotWhite 4 (some .int)) := ⟨List.mem_of_getElem? (i := 239) (by decide +kernel), by decide +kernel⟩
theorem tg236 : TG (.methodLink RX5 80 yX1_firstNotWhite) := ⟨List.mem_of_getElem? (i := 236) (by decide +kernel), by decide +kernel⟩
theorem tg237 : TG (.instanceMethod yX1_firstNotWhite) := ⟨List.mem_of_getElem? (i := 237) (by decide +kernel), by decide +kernel⟩
theorem tg238 : TG (.selects yX1_firstNotWhite.cls yX1_firstNotWhite yX1_firstNotWhite) := ⟨List.mem_of_getElem? (i := 238) (by decide +kernel), by decide +kernel⟩
theorem lk_X5_80 : LV RX5 80 yX1_firstNotWhite cX1_firstNotWhite 4 (some .int) 0 := ⟨tg236, tg237, tg238, tg63, tg239, ⟨by decide +kernel, by decide +kernel, by decide +kernel⟩⟩
theorem tg254 : TG (.code yX5_nothingFollows cX5_nothingFollows 1 (some .int)) := ⟨List.mem_of_getElem? (i := 254) (by decide +kernel), by decide +kernel⟩
theorem tg251 : TG (.methodLink RX5 84 yX5_nothingFollows) := ⟨List.mem_of_getElem? (i := 251) (by decide +kernel), by decide +kernel⟩
theorem tg253 : TG (.instanceMethod yX5_nothingFollows) := ⟨List.mem_of_getElem? (i := 253) (by decide +kernel), by decide +kernel⟩
theorem tg0 : TG (.selects yX5_nothingFollows.cls yX5_nothingFollows yX5_nothingFollows) := ⟨List.mem_of_getElem? (i := 0) (by decide +kernel), by decide +kernel⟩
theorem lk_X5_84 : LV RX5 84 yX5_nothingFollows cX5_nothingFollows 1 (some .int) 0 := ⟨tg251, tg253, tg0, tg62, tg254, ⟨by decide +kernel, by decide +kernel, by decide +kernel⟩⟩
theorem tg258 : TG (.code yX3_startAt cX3_startAt 2 none) := ⟨List.mem_of_getElem? (i := 258) (by decide +kernel), by decide +kernel⟩
theorem tg255 : TG (.methodLink RX5 87 yX3_startAt) := ⟨List.mem_of_getElem? (i := 255) (by decide +kernel), by decide +kernel⟩
theorem tg256 : TG (.instanceMethod yX3_startAt) := ⟨List.mem_of_getElem? (i := 256) (by decide +kernel), by decide +kernel⟩
theorem tg257 : TG (.selects yX3_startAt.cls yX3_startAt yX3_startAt) := ⟨List.mem_of_getElem? (i := 257) (by decide +kernel), by decide +kernel⟩
theorem lk_X5_87 : LV RX5 87 yX3_startAt cX3_startAt 2 none 1 := ⟨tg255, tg256, tg257, tg67, tg258, ⟨by decide +kernel, by decide +kernel, by decide +kernel⟩⟩
theorem tg259 : TG (.methodLink RX5 91 yX1_at) := ⟨List.mem_of_getElem? (i := 259) (by decide +kernel), by decide +kernel⟩
theorem lk_X5_91 : LV RX5 91 yX1_at cX1_at 2 (some .int) 1 := ⟨tg259, tg241, tg242, tg63, tg243, ⟨by decide +kernel, by decide +kernel, by decide +kernel⟩⟩
theorem tg263 : TG (.code yX5_readToken cX5_readToken 2 (some .int)) := ⟨List.mem_of_getElem? (i := 263) (by decide +kernel), by decide +kernel⟩
theorem tg260 : TG (.methodLink RX5 95 yX5_readToken) := ⟨List.mem_of_getElem? (i := 260) (by decide +kernel), by decide +kernel⟩
theorem tg262 : TG (.instanceMethod yX5_readToken) := ⟨List.mem_of_getElem? (i := 262) (by decide +kernel), by decide +kernel⟩
theorem tg1 : TG (.selects yX5_readToken.cls yX5_readToken yX5_readToken) := ⟨List.mem_of_getElem? (i := 1) (by decide +kernel), by decide +kernel⟩
theorem lk_X5_95 : LV RX5 95 yX5_readToken cX5_readToken 2 (some .int) 1 := ⟨tg260, tg262, tg1, tg62, tg263, ⟨by decide +kernel, by decide +kernel, by decide +kernel⟩⟩
theorem tg159 : TG (.fieldLink RX5 98 (TX3 1).1 (TX3 1).2.1 (TX3 1).2.2.1) := ⟨List.mem_of_getElem? (i := 159) (by decide +kernel), by decide +kernel⟩
theorem fl_X5_98 : FL RX5 98 4 1 RX3 TX3 10 := ⟨rfl, by decide, tg159, us_X3⟩
theorem tg156 : TG (.fieldLink RX5 101 (TX3 0).1 (TX3 0).2.1 (TX3 0).2.2.1) := ⟨List.mem_of_getElem? (i := 156) (by decide +kernel), by decide +kernel⟩
theorem fl_X5_101 : FL RX5 101 4 0 RX3 TX3 10 := ⟨rfl, by decide, tg156, us_X3⟩
theorem tg208 : TG (.fieldLink RX5 104 (TX5 8).1 (TX5 8).2.1 (TX5 8).2.2.1) := ⟨List.mem_of_getElem? (i := 208) (by decide +kernel), by decide +kernel⟩
theorem fl_X5_104 : FL RX5 104 6 8 RX5 TX5 9 := ⟨rfl, by decide, tg208, us_X5⟩
theorem tg519 : TG (.code yX5_keepDraft cX5_keepDraft 2 none) := ⟨List.mem_of_getElem? (i := 519) (by decide +kernel), by decide +kernel⟩
theorem tg516 : TG (.methodLink RX5 107 yX5_keepDraft) := ⟨List.mem_of_getElem? (i := 516) (by decide +kernel), by decide +kernel⟩
theorem tg518 : TG (.instanceMethod yX5_keepDraft) := ⟨List.mem_of_getElem? (i := 518) (by decide +kernel), by decide +kernel⟩
theorem tg28 : TG (.selects yX5_keepDraft.cls yX5_keepDraft yX5_keepDraft) := ⟨List.mem_of_getElem? (i := 28) (by decide +kernel), by decide +kernel⟩
theorem lk_X5_107 : LV RX5 107 yX5_keepDraft cX5_keepDraft 2 none 0 := ⟨tg516, tg518, tg28, tg62, tg519, ⟨by decide +kernel, by decide +kernel, by decide +kernel⟩⟩
theorem tg164 : TG (.fieldLink RX5 110 (TX3 2).1 (TX3 2).2.1 (TX3 2).2.2.1) := ⟨List.mem_of_getElem? (i := 164) (by decide +kernel), by decide +kernel⟩
theorem fl_X5_110 : FL RX5 110 4 2 RX3 TX3 10 := ⟨rfl, by decide, tg164, us_X3⟩
theorem tg166 : TG (.fieldLink RX5 114 (TX3 3).1 (TX3 3).2.1 (TX3 3).2.2.1) := ⟨List.mem_of_getElem? (i := 166) (by decide +kernel), by decide +kernel⟩
theorem fl_X5_114 : FL RX5 114 4 3 RX3 TX3 10 := ⟨rfl, by decide, tg166, us_X3⟩
theorem tg532 : TG (.methodLink RX5 118 yX3_textAt) := ⟨List.mem_of_getElem? (i := 532) (by decide +kernel), by decide +kernel⟩
theorem lk_X5_118 : LV RX5 118 yX3_textAt cX3_textAt 2 (some .int) 1 := ⟨tg532, tg478, tg479, tg67, tg480, ⟨by decide +kernel, by decide +kernel, by decide +kernel⟩⟩
theorem tg661 : TG (.code yX3_hasInRow cX3_hasInRow 2 (some .boolean)) := ⟨List.mem_of_getElem? (i := 661) (by decide +kernel), by decide +kernel⟩
theorem tg658 : TG (.methodLink RX5 121 yX3_hasInRow) := ⟨List.mem_of_getElem? (i := 658) (by decide +kernel), by decide +kernel⟩
theorem tg659 : TG (.instanceMethod yX3_hasInRow) := ⟨List.mem_of_getElem? (i := 659) (by decide +kernel), by decide +kernel⟩
theorem tg660 : TG (.selects yX3_hasInRow.cls yX3_hasInRow yX3_hasInRow) := ⟨List.mem_of_getElem? (i := 660) (by decide +kernel), by decide +kernel⟩
theorem lk_X5_121 : LV RX5 121 yX3_hasInRow cX3_hasInRow 2 (some .boolean) 1 := ⟨tg658, tg659, tg660, tg67, tg661, ⟨by decide +kernel, by decide +kernel, by decide +kernel⟩⟩
theorem tg174 : TG (.fieldLink RX5 130 (TX3 8).1 (TX3 8).2.1 (TX3 8).2.2.1) := ⟨List.mem_of_getElem? (i := 174) (by decide +kernel), by decide +kernel⟩
theorem fl_X5_130 : FL RX5 130 4 8 RX3 TX3 10 := ⟨rfl, by decide, tg174, us_X3⟩
theorem tg171 : TG (.fieldLink RX5 133 (TX3 6).1 (TX3 6).2.1 (TX3 6).2.2.1) := ⟨List.mem_of_getElem? (i := 171) (by decide +kernel), by decide +kernel⟩
theorem fl_X5_133 : FL RX5 133 4 6 RX3 TX3 10 := ⟨rfl, by decide, tg171, us_X3⟩
theorem tg173 : TG (.fieldLink RX5 136 (TX3 7).1 (TX3 7).2.1 (TX3 7).2.2.1) := ⟨List.mem_of_getElem? (i := 173) (by decide +kernel), by decide +kernel⟩
theorem fl_X5_136 : FL RX5 136 4 7 RX3 TX3 10 := ⟨rfl, by decide, tg173, us_X3⟩
theorem tg120 : TG (.fieldLink RX5 140 (TX4 1).1 (TX4 1).2.1 (TX4 1).2.2.1) := ⟨List.mem_of_getElem? (i := 120) (by decide +kernel), by decide +kernel⟩
theorem fl_X5_140 : FL RX5 140 5 1 RX4 TX4 2 := ⟨rfl, by decide, tg120, us_X4⟩
theorem tg205 : TG (.fieldLink RX5 143 (TX5 5).1 (TX5 5).2.1 (TX5 5).2.2.1) := ⟨List.mem_of_getElem? (i := 205) (by decide +kernel), by decide +kernel⟩
theorem fl_X5_143 : FL RX5 143 6 5 RX5 TX5 9 := ⟨rfl, by decide, tg205, us_X5⟩
theorem tg693 : TG (.methodLink RX5 146 yX1_has) := ⟨List.mem_of_getElem? (i := 693) (by decide +kernel), by decide +kernel⟩
theorem lk_X5_146 : LV RX5 146 yX1_has cX1_has 2 (some .boolean) 1 := ⟨tg693, tg245, tg246, tg63, tg247, ⟨by decide +kernel, by decide +kernel, by decide +kernel⟩⟩
theorem tg552 : TG (.code yX1_forget cX1_forget 1 none) := ⟨List.mem_of_getElem? (i := 552) (by decide +kernel), by decide +kernel⟩
theorem tg549 : TG (.methodLink RX5 154 yX1_forget) := ⟨List.mem_of_getElem? (i := 549) (by decide +kernel), by decide +kernel⟩
theorem tg550 : TG (.instanceMethod yX1_forget) := ⟨List.mem_of_getElem? (i := 550) (by decide +kernel), by decide +kernel⟩
theorem tg551 : TG (.selects yX1_forget.cls yX1_forget yX1_forget) := ⟨List.mem_of_getElem? (i := 551) (by decide +kernel), by decide +kernel⟩
theorem lk_X5_154 : LV RX5 154 yX1_forget cX1_forget 1 none 0 := ⟨tg549, tg550, tg551, tg63, tg552, ⟨by decide +kernel, by decide +kernel, by decide +kernel⟩⟩
theorem tg267 : TG (.code yX0_readBinary cX0_readBinary 3 (some .int)) := ⟨List.mem_of_getElem? (i := 267) (by decide +kernel), by decide +kernel⟩
theorem tg264 : TG (.methodLink RX5 157 yX0_readBinary) := ⟨List.mem_of_getElem? (i := 264) (by decide +kernel), by decide +kernel⟩
theorem tg265 : TG (.instanceMethod yX0_readBinary) := ⟨List.mem_of_getElem? (i := 265) (by decide +kernel), by decide +kernel⟩
theorem tg266 : TG (.selects yX0_readBinary.cls yX0_readBinary yX0_readBinary) := ⟨List.mem_of_getElem? (i := 266) (by decide +kernel), by decide +kernel⟩
theorem lk_X5_157 : LV RX5 157 yX0_readBinary cX0_readBinary 3 (some .int) 2 := ⟨tg264, tg265, tg266, tg66, tg267, ⟨by decide +kernel, by decide +kernel, by decide +kernel⟩⟩
theorem tg363 : TG (.code yX4_readSlashed cX4_readSlashed 3 (some .int)) := ⟨List.mem_of_getElem? (i := 363) (by decide +kernel), by decide +kernel⟩
theorem tg360 : TG (.methodLink RX5 161 yX4_readSlashed) := ⟨List.mem_of_getElem? (i := 360) (by decide +kernel), by decide +kernel⟩
theorem tg361 : TG (.instanceMethod yX4_readSlashed) := ⟨List.mem_of_getElem? (i := 361) (by decide +kernel), by decide +kernel⟩
theorem tg362 : TG (.selects yX4_readSlashed.cls yX4_readSlashed yX4_readSlashed) := ⟨List.mem_of_getElem? (i := 362) (by decide +kernel), by decide +kernel⟩
theorem lk_X5_161 : LV RX5 161 yX4_readSlashed cX4_readSlashed 3 (some .int) 1 := ⟨tg360, tg361, tg362, tg64, tg363, ⟨by decide +kernel, by decide +kernel, by decide +kernel⟩⟩
theorem tg384 : TG (.code yX2_readRound cX2_readRound 5 (some .int)) := ⟨List.mem_of_getElem? (i := 384) (by decide +kernel), by decide +kernel⟩
theorem tg381 : TG (.methodLink RX5 165 yX2_readRound) := ⟨List.mem_of_getElem? (i := 381) (by decide +kernel), by decide +kernel⟩
theorem tg382 : TG (.instanceMethod yX2_readRound) := ⟨List.mem_of_getElem? (i := 382) (by decide +kernel), by decide +kernel⟩
theorem tg383 : TG (.selects yX2_readRound.cls yX2_readRound yX2_readRound) := ⟨List.mem_of_getElem? (i := 383) (by decide +kernel), by decide +kernel⟩
theorem lk_X5_165 : LV RX5 165 yX2_readRound cX2_readRound 5 (some .int) 1 := ⟨tg381, tg382, tg383, tg65, tg384, ⟨by decide +kernel, by decide +kernel, by decide +kernel⟩⟩
theorem tg424 : TG (.code yX5_readLess cX5_readLess 1 (some .int)) := ⟨List.mem_of_getElem? (i := 424) (by decide +kernel), by decide +kernel⟩
theorem tg421 : TG (.methodLink RX5 168 yX5_readLess) := ⟨List.mem_of_getElem? (i := 421) (by decide +kernel), by decide +kernel⟩
theorem tg423 : TG (.instanceMethod yX5_readLess) := ⟨List.mem_of_getElem? (i := 423) (by decide +kernel), by decide +kernel⟩
theorem tg19 : TG (.selects yX5_readLess.cls yX5_readLess yX5_readLess) := ⟨List.mem_of_getElem? (i := 19) (by decide +kernel), by decide +kernel⟩
theorem lk_X5_168 : LV RX5 168 yX5_readLess cX5_readLess 1 (some .int) 0 := ⟨tg421, tg423, tg19, tg62, tg424, ⟨by decide +kernel, by decide +kernel, by decide +kernel⟩⟩
theorem tg457 : TG (.code yX5_readGreater cX5_readGreater 1 (some .int)) := ⟨List.mem_of_getElem? (i := 457) (by decide +kernel), by decide +kernel⟩
theorem tg454 : TG (.methodLink RX5 171 yX5_readGreater) := ⟨List.mem_of_getElem? (i := 454) (by decide +kernel), by decide +kernel⟩
theorem tg456 : TG (.instanceMethod yX5_readGreater) := ⟨List.mem_of_getElem? (i := 456) (by decide +kernel), by decide +kernel⟩
theorem tg22 : TG (.selects yX5_readGreater.cls yX5_readGreater yX5_readGreater) := ⟨List.mem_of_getElem? (i := 22) (by decide +kernel), by decide +kernel⟩
theorem lk_X5_171 : LV RX5 171 yX5_readGreater cX5_readGreater 1 (some .int) 0 := ⟨tg454, tg456, tg22, tg62, tg457, ⟨by decide +kernel, by decide +kernel, by decide +kernel⟩⟩
theorem tg461 : TG (.code yX5_openBrace cX5_openBrace 1 (some .int)) := ⟨List.mem_of_getElem? (i := 461) (by decide +kernel), by decide +kernel⟩
theorem tg458 : TG (.methodLink RX5 174 yX5_openBrace) := ⟨List.mem_of_getElem? (i := 458) (by decide +kernel), by decide +kernel⟩
theorem tg460 : TG (.instanceMethod yX5_openBrace) := ⟨List.mem_of_getElem? (i := 460) (by decide +kernel), by decide +kernel⟩
theorem tg23 : TG (.selects yX5_openBrace.cls yX5_openBrace yX5_openBrace) := ⟨List.mem_of_getElem? (i := 23) (by decide +kernel), by decide +kernel⟩
theorem lk_X5_174 : LV RX5 174 yX5_openBrace cX5_openBrace 1 (some .int) 0 := ⟨tg458, tg460, tg23, tg62, tg461, ⟨by decide +kernel, by decide +kernel, by decide +kernel⟩⟩
theorem tg465 : TG (.code yX5_closeBrace cX5_closeBrace 1 (some .int)) := ⟨List.mem_of_getElem? (i := 465) (by decide +kernel), by decide +kernel⟩
theorem tg462 : TG (.methodLink RX5 177 yX5_closeBrace) := ⟨List.mem_of_getElem? (i := 462) (by decide +kernel), by decide +kernel⟩
theorem tg464 : TG (.instanceMethod yX5_closeBrace) := ⟨List.mem_of_getElem? (i := 464) (by decide +kernel), by decide +kernel⟩
theorem tg24 : TG (.selects yX5_closeBrace.cls yX5_closeBrace yX5_closeBrace) := ⟨List.mem_of_getElem? (i := 24) (by decide +kernel), by decide +kernel⟩
theorem lk_X5_177 : LV RX5 177 yX5_closeBrace cX5_closeBrace 1 (some .int) 0 := ⟨tg462, tg464, tg24, tg62, tg465, ⟨by decide +kernel, by decide +kernel, by decide +kernel⟩⟩
theorem tg469 : TG (.code yX4_readWord cX4_readWord 3 (some .int)) := ⟨List.mem_of_getElem? (i := 469) (by decide +kernel), by decide +kernel⟩
theorem tg466 : TG (.methodLink RX5 180 yX4_readWord) := ⟨List.mem_of_getElem? (i := 466) (by decide +kernel), by decide +kernel⟩
theorem tg467 : TG (.instanceMethod yX4_readWord) := ⟨List.mem_of_getElem? (i := 467) (by decide +kernel), by decide +kernel⟩
theorem tg468 : TG (.selects yX4_readWord.cls yX4_readWord yX4_readWord) := ⟨List.mem_of_getElem? (i := 468) (by decide +kernel), by decide +kernel⟩
theorem lk_X5_180 : LV RX5 180 yX4_readWord cX4_readWord 3 (some .int) 1 := ⟨tg466, tg467, tg468, tg64, tg469, ⟨by decide +kernel, by decide +kernel, by decide +kernel⟩⟩
theorem tg425 : TG (.methodLink RX5 183 yX1_lacking) := ⟨List.mem_of_getElem? (i := 425) (by decide +kernel), by decide +kernel⟩
theorem lk_X5_183 : LV RX5 183 yX1_lacking cX1_lacking 2 (some .int) 1 := ⟨tg425, tg277, tg278, tg63, tg279, ⟨by decide +kernel, by decide +kernel, by decide +kernel⟩⟩
theorem tg429 : TG (.code yX5_pairMark cX5_pairMark 2 (some .int)) := ⟨List.mem_of_getElem? (i := 429) (by decide +kernel), by decide +kernel⟩
theorem tg426 : TG (.methodLink RX5 186 yX5_pairMark) := ⟨List.mem_of_getElem? (i := 426) (by decide +kernel), by decide +kernel⟩
theorem tg428 : TG (.instanceMethod yX5_pairMark) := ⟨List.mem_of_getElem? (i := 428) (by decide +kernel), by decide +kernel⟩
theorem tg20 : TG (.selects yX5_pairMark.cls yX5_pairMark yX5_pairMark) := ⟨List.mem_of_getElem? (i := 20) (by decide +kernel), by decide +kernel⟩
theorem lk_X5_186 : LV RX5 186 yX5_pairMark cX5_pairMark 2 (some .int) 1 := ⟨tg426, tg428, tg20, tg62, tg429, ⟨by decide +kernel, by decide +kernel, by decide +kernel⟩⟩
theorem tg433 : TG (.code yX2_readBase85 cX2_readBase85 7 (some .int)) := ⟨List.mem_of_getElem? (i := 433) (by decide +kernel), by decide +kernel⟩
theorem tg430 : TG (.methodLink RX5 189 yX2_readBase85) := ⟨List.mem_of_getElem? (i := 430) (by decide +kernel), by decide +kernel⟩
theorem tg431 : TG (.instanceMethod yX2_readBase85) := ⟨List.mem_of_getElem? (i := 431) (by decide +kernel), by decide +kernel⟩
theorem tg432 : TG (.selects yX2_readBase85.cls yX2_readBase85 yX2_readBase85) := ⟨List.mem_of_getElem? (i := 432) (by decide +kernel), by decide +kernel⟩
theorem lk_X5_189 : LV RX5 189 yX2_readBase85 cX2_readBase85 7 (some .int) 1 := ⟨tg430, tg431, tg432, tg65, tg433, ⟨by decide +kernel, by decide +kernel, by decide +kernel⟩⟩
theorem tg450 : TG (.code yX2_readBase16 cX2_readBase16 6 (some .int)) := ⟨List.mem_of_getElem? (i := 450) (by decide +kernel), by decide +kernel⟩
theorem tg447 : TG (.methodLink RX5 192 yX2_readBase16) := ⟨List.mem_of_getElem? (i := 447) (by decide +kernel), by decide +kernel⟩
theorem tg448 : TG (.instanceMethod yX2_readBase16) := ⟨List.mem_of_getElem? (i := 448) (by decide +kernel), by decide +kernel⟩
theorem tg449 : TG (.selects yX2_readBase16.cls yX2_readBase16 yX2_readBase16) := ⟨List.mem_of_getElem? (i := 449) (by decide +kernel), by decide +kernel⟩
theorem lk_X5_192 : LV RX5 192 yX2_readBase16 cX2_readBase16 6 (some .int) 1 := ⟨tg447, tg448, tg449, tg65, tg450, ⟨by decide +kernel, by decide +kernel, by decide +kernel⟩⟩
theorem tg720 : TG (.fieldLink RX6 7 (TX6 2).1 (TX6 2).2.1 (TX6 2).2.2.1) := ⟨List.mem_of_getElem? (i := 720) (by decide +kernel), by decide +kernel⟩
theorem fl_X6_7 : FL RX6 7 7 2 RX6 TX6 30 := ⟨rfl, by decide, tg720, us_X6⟩
theorem tg725 : TG (.fieldLink RX6 13 (TX6 7).1 (TX6 7).2.1 (TX6 7).2.2.1) := ⟨List.mem_of_getElem? (i := 725) (by decide +kernel), by decide +kernel⟩
theorem fl_X6_13 : FL RX6 13 7 7 RX6 TX6 30 := ⟨rfl, by decide, tg725, us_X6⟩
theorem tg730 : TG (.fieldLink RX6 17 (TX6 12).1 (TX6 12).2.1 (TX6 12).2.2.1) := ⟨List.mem_of_getElem? (i := 730) (by decide +kernel), by decide +kernel⟩
theorem fl_X6_17 : FL RX6 17 7 12 RX6 TX6 30 := ⟨rfl, by decide, tg730, us_X6⟩
theorem tg732 : TG (.fieldLink RX6 21 (TX6 14).1 (TX6 14).2.1 (TX6 14).2.2.1) := ⟨List.mem_of_getElem? (i := 732) (by decide +kernel), by decide +kernel⟩
theorem fl_X6_21 : FL RX6 21 7 14 RX6 TX6 30 := ⟨rfl, by decide, tg732, us_X6⟩
theorem tg735 : TG (.fieldLink RX6 24 (TX6 17).1 (TX6 17).2.1 (TX6 17).2.2.1) := ⟨List.mem_of_getElem? (i := 735) (by decide +kernel), by decide +kernel⟩
theorem fl_X6_24 : FL RX6 24 7 17 RX6 TX6 30 := ⟨rfl, by decide, tg735, us_X6⟩
theorem tg736 : TG (.fieldLink RX6 27 (TX6 18).1 (TX6 18).2.1 (TX6 18).2.2.1) := ⟨List.mem_of_getElem? (i := 736) (by decide +kernel), by decide +kernel⟩
theorem fl_X6_27 : FL RX6 27 7 18 RX6 TX6 30 := ⟨rfl, by decide, tg736, us_X6⟩
theorem tg742 : TG (.fieldLink RX6 31 (TX6 24).1 (TX6 24).2.1 (TX6 24).2.2.1) := ⟨List.mem_of_getElem? (i := 742) (by decide +kernel), by decide +kernel⟩
theorem fl_X6_31 : FL RX6 31 7 24 RX6 TX6 30 := ⟨rfl, by decide, tg742, us_X6⟩
theorem tg745 : TG (.fieldLink RX6 34 (TX6 27).1 (TX6 27).2.1 (TX6 27).2.2.1) := ⟨List.mem_of_getElem? (i := 745) (by decide +kernel), by decide +kernel⟩
theorem fl_X6_34 : FL RX6 34 7 27 RX6 TX6 30 := ⟨rfl, by decide, tg745, us_X6⟩
theorem tg746 : TG (.fieldLink RX6 37 (TX6 28).1 (TX6 28).2.1 (TX6 28).2.2.1) := ⟨List.mem_of_getElem? (i := 746) (by decide +kernel), by decide +kernel⟩
theorem fl_X6_37 : FL RX6 37 7 28 RX6 TX6 30 := ⟨rfl, by decide, tg746, us_X6⟩
theorem tg719 : TG (.fieldLink RX6 40 (TX6 1).1 (TX6 1).2.1 (TX6 1).2.2.1) := ⟨List.mem_of_getElem? (i := 719) (by decide +kernel), by decide +kernel⟩
theorem fl_X6_40 : FL RX6 40 7 1 RX6 TX6 30 := ⟨rfl, by decide, tg719, us_X6⟩
theorem tg718 : TG (.fieldLink RX6 43 (TX6 0).1 (TX6 0).2.1 (TX6 0).2.2.1) := ⟨List.mem_of_getElem? (i := 718) (by decide +kernel), by decide +kernel⟩
theorem fl_X6_43 : FL RX6 43 7 0 RX6 TX6 30 := ⟨rfl, by decide, tg718, us_X6⟩
theorem tg835 : TG (.code yX6_isBlank cX6_isBlank 1 (some .boolean)) := ⟨List.mem_of_getElem? (i := 835) (by decide +kernel), by decide +kernel⟩
theorem tg833 : TG (.methodLink RX6 46 yX6_isBlank) := ⟨List.mem_of_getElem? (i := 833) (by decide +kernel), by decide +kernel⟩
theorem tg834 : TG (.static yX6_isBlank) := ⟨List.mem_of_getElem? (i := 834) (by decide +kernel), by decide +kernel⟩
theorem lk_X6_46 : LSt RX6 46 yX6_isBlank cX6_isBlank 1 (some .boolean) 1 := ⟨tg833, tg834, tg68, tg835, ⟨by decide +kernel, by decide +kernel, by decide +kernel⟩⟩
theorem tg845 : TG (.code yX6_isOwn cX6_isOwn 1 (some .boolean)) := ⟨List.mem_of_getElem? (i := 845) (by decide +kernel), by decide +kernel⟩
theorem tg843 : TG (.methodLink RX6 50 yX6_isOwn) := ⟨List.mem_of_getElem? (i := 843) (by decide +kernel), by decide +kernel⟩
theorem tg844 : TG (.static yX6_isOwn) := ⟨List.mem_of_getElem? (i := 844) (by decide +kernel), by decide +kernel⟩
theorem lk_X6_50 : LSt RX6 50 yX6_isOwn cX6_isOwn 1 (some .boolean) 1 := ⟨tg843, tg844, tg68, tg845, ⟨by decide +kernel, by decide +kernel, by decide +kernel⟩⟩
theorem tg721 : TG (.fieldLink RX6 53 (TX6 3).1 (TX6 3).2.1 (TX6 3).2.2.1) := ⟨List.mem_of_getElem? (i := 721) (by decide +kernel), by decide +kernel⟩
theorem fl_X6_53 : FL RX6 53 7 3 RX6 TX6 30 := ⟨rfl, by decide, tg721, us_X6⟩
theorem tg722 : TG (.fieldLink RX6 57 (TX6 4).1 (TX6 4).2.1 (TX6 4).2.2.1) := ⟨List.mem_of_getElem? (i := 722) (by decide +kernel), by decide +kernel⟩
theorem fl_X6_57 : FL RX6 57 7 4 RX6 TX6 30 := ⟨rfl, by decide, tg722, us_X6⟩
theorem tg864 : TG (.code yX6_isDigit cX6_isDigit 1 (some .boolean)) := ⟨List.mem_of_getElem? (i := 864) (by decide +kernel), by decide +kernel⟩
theorem tg862 : TG (.methodLink RX6 60 yX6_isDigit) := ⟨List.mem_of_getElem? (i := 862) (by decide +kernel), by decide +kernel⟩
theorem tg863 : TG (.static yX6_isDigit) := ⟨List.mem_of_getElem? (i := 863) (by decide +kernel), by decide +kernel⟩
theorem lk_X6_60 : LSt RX6 60 yX6_isDigit cX6_isDigit 1 (some .boolean) 1 := ⟨tg862, tg863, tg68, tg864, ⟨by decide +kernel, by decide +kernel, by decide +kernel⟩⟩
theorem tg832 : TG (.code yX6_byteAt cX6_byteAt 2 (some .int)) := ⟨List.mem_of_getElem? (i := 832) (by decide +kernel), by decide +kernel⟩
theorem tg829 : TG (.methodLink RX6 63 yX6_byteAt) := ⟨List.mem_of_getElem? (i := 829) (by decide +kernel), by decide +kernel⟩
theorem tg831 : TG (.instanceMethod yX6_byteAt) := ⟨List.mem_of_getElem? (i := 831) (by decide +kernel), by decide +kernel⟩
theorem tg31 : TG (.selects yX6_byteAt.cls yX6_byteAt yX6_byteAt) := ⟨List.mem_of_getElem? (i := 31) (by decide +kernel), by decide +kernel⟩
theorem lk_X6_63 : LV RX6 63 yX6_byteAt cX6_byteAt 2 (some .int) 1 := ⟨tg829, tg831, tg31, tg68, tg832, ⟨by decide +kernel, by decide +kernel, by decide +kernel⟩⟩
theorem tg861 : TG (.code yX6_digitsFrom cX6_digitsFrom 4 (some .int)) := ⟨List.mem_of_getElem? (i := 861) (by decide +kernel), by decide +kernel⟩
theorem tg858 : TG (.methodLink RX6 67 yX6_digitsFrom) := ⟨List.mem_of_getElem? (i := 858) (by decide +kernel), by decide +kernel⟩
theorem tg860 : TG (.instanceMethod yX6_digitsFrom) := ⟨List.mem_of_getElem? (i := 860) (by decide +kernel), by decide +kernel⟩
theorem tg36 : TG (.selects yX6_digitsFrom.cls yX6_digitsFrom yX6_digitsFrom) := ⟨List.mem_of_getElem? (i := 36) (by decide +kernel), by decide +kernel⟩
theorem lk_X6_67 : LV RX6 67 yX6_digitsFrom cX6_digitsFrom 4 (some .int) 2 := ⟨tg858, tg860, tg36, tg68, tg861, ⟨by decide +kernel, by decide +kernel, by decide +kernel⟩⟩
theorem tg865 : TG (.constantLong RX6 71 (4294967296)) := ⟨List.mem_of_getElem? (i := 865) (by decide +kernel), by decide +kernel⟩
theorem tg866 : TG (.constantLong RX6 73 (10)) := ⟨List.mem_of_getElem? (i := 866) (by decide +kernel), by decide +kernel⟩
theorem tg867 : TG (.constantLong RX6 75 (48)) := ⟨List.mem_of_getElem? (i := 867) (by decide +kernel), by decide +kernel⟩
theorem tg738 : TG (.fieldLink RX6 77 (TX6 20).1 (TX6 20).2.1 (TX6 20).2.2.1) := ⟨List.mem_of_getElem? (i := 738) (by decide +kernel), by decide +kernel⟩
theorem fl_X6_77 : FL RX6 77 7 20 RX6 TX6 30 := ⟨rfl, by decide, tg738, us_X6⟩
theorem tg740 : TG (.fieldLink RX6 81 (TX6 22).1 (TX6 22).2.1 (TX6 22).2.2.1) := ⟨List.mem_of_getElem? (i := 740) (by decide +kernel), by decide +kernel⟩
theorem fl_X6_81 : FL RX6 81 7 22 RX6 TX6 30 := ⟨rfl, by decide, tg740, us_X6⟩
theorem tg868 : TG (.constantLong RX6 84 (-2147483648)) := ⟨List.mem_of_getElem? (i := 868) (by decide +kernel), by decide +kernel⟩
theorem tg869 : TG (.constantLong RX6 86 (2147483647)) := ⟨List.mem_of_getElem? (i := 869) (by decide +kernel), by decide +kernel⟩
theorem tg876 : TG (.code yX6_digit cX6_digit 1 (some .int)) := ⟨List.mem_of_getElem? (i := 876) (by decide +kernel), by decide +kernel⟩
theorem tg874 : TG (.methodLink RX6 88 yX6_digit) := ⟨List.mem_of_getElem? (i := 874) (by decide +kernel), by decide +kernel⟩
theorem tg875 : TG (.static yX6_digit) := ⟨List.mem_of_getElem? (i := 875) (by decide +kernel), by decide +kernel⟩
theorem lk_X6_88 : LSt RX6 88 yX6_digit cX6_digit 1 (some .int) 1 := ⟨tg874, tg875, tg68, tg876, ⟨by decide +kernel, by decide +kernel, by decide +kernel⟩⟩
theorem tg881 : TG (.constantDouble RX6 91 (4621819117588971520)) := ⟨List.mem_of_getElem? (i := 881) (by decide +kernel), by decide +kernel⟩
theorem tg739 : TG (.fieldLink RX6 93 (TX6 21).1 (TX6 21).2.1 (TX6 21).2.2.1) := ⟨List.mem_of_getElem? (i := 739) (by decide +kernel), by decide +kernel⟩
theorem fl_X6_93 : FL RX6 93 7 21 RX6 TX6 30 := ⟨rfl, by decide, tg739, us_X6⟩
theorem tg882 : TG (.constantDouble RX6 97 (9218868437227405311)) := ⟨List.mem_of_getElem? (i := 882) (by decide +kernel), by decide +kernel⟩
theorem tg741 : TG (.fieldLink RX6 99 (TX6 23).1 (TX6 23).2.1 (TX6 23).2.2.1) := ⟨List.mem_of_getElem? (i := 741) (by decide +kernel), by decide +kernel⟩
theorem fl_X6_99 : FL RX6 99 7 23 RX6 TX6 30 := ⟨rfl, by decide, tg741, us_X6⟩
theorem tg723 : TG (.fieldLink RX6 102 (TX6 5).1 (TX6 5).2.1 (TX6 5).2.2.1) := ⟨List.mem_of_getElem? (i := 723) (by decide +kernel), by decide +kernel⟩
theorem fl_X6_102 : FL RX6 102 7 5 RX6 TX6 30 := ⟨rfl, by decide, tg723, us_X6⟩
theorem tg842 : TG (.code yX6_isPlain cX6_isPlain 1 (some .boolean)) := ⟨List.mem_of_getElem? (i := 842) (by decide +kernel), by decide +kernel⟩
theorem tg840 : TG (.methodLink RX6 105 yX6_isPlain) := ⟨List.mem_of_getElem? (i := 840) (by decide +kernel), by decide +kernel⟩
theorem tg841 : TG (.static yX6_isPlain) := ⟨List.mem_of_getElem? (i := 841) (by decide +kernel), by decide +kernel⟩
theorem lk_X6_105 : LSt RX6 105 yX6_isPlain cX6_isPlain 1 (some .boolean) 1 := ⟨tg840, tg841, tg68, tg842, ⟨by decide +kernel, by decide +kernel, by decide +kernel⟩⟩
theorem tg853 : TG (.code yX6_word cX6_word 2 (some .int)) := ⟨List.mem_of_getElem? (i := 853) (by decide +kernel), by decide +kernel⟩
theorem tg850 : TG (.methodLink RX6 108 yX6_word) := ⟨List.mem_of_getElem? (i := 850) (by decide +kernel), by decide +kernel⟩
theorem tg852 : TG (.instanceMethod yX6_word) := ⟨List.mem_of_getElem? (i := 852) (by decide +kernel), by decide +kernel⟩
theorem tg34 : TG (.selects yX6_word.cls yX6_word yX6_word) := ⟨List.mem_of_getElem? (i := 34) (by decide +kernel), by decide +kernel⟩
theorem lk_X6_108 : LV RX6 108 yX6_word cX6_word 2 (some .int) 0 := ⟨tg850, tg852, tg34, tg68, tg853, ⟨by decide +kernel, by decide +kernel, by decide +kernel⟩⟩
theorem tg857 : TG (.code yX6_isInteger cX6_isInteger 7 (some .boolean)) := ⟨List.mem_of_getElem? (i := 857) (by decide +kernel), by decide +kernel⟩
theorem tg854 : TG (.methodLink RX6 112 yX6_isInteger) := ⟨List.mem_of_getElem? (i := 854) (by decide +kernel), by decide +kernel⟩
theorem tg856 : TG (.instanceMethod yX6_isInteger) := ⟨List.mem_of_getElem? (i := 856) (by decide +kernel), by decide +kernel⟩
theorem tg35 : TG (.selects yX6_isInteger.cls yX6_isInteger yX6_isInteger) := ⟨List.mem_of_getElem? (i := 35) (by decide +kernel), by decide +kernel⟩
theorem lk_X6_112 : LV RX6 112 yX6_isInteger cX6_isInteger 7 (some .boolean) 2 := ⟨tg854, tg856, tg35, tg68, tg857, ⟨by decide +kernel, by decide +kernel, by decide +kernel⟩⟩
theorem tg873 : TG (.code yX6_withBase cX6_withBase 9 (some .int)) := ⟨List.mem_of_getElem? (i := 873) (by decide +kernel), by decide +kernel⟩
theorem tg870 : TG (.methodLink RX6 116 yX6_withBase) := ⟨List.mem_of_getElem? (i := 870) (by decide +kernel), by decide +kernel⟩
theorem tg872 : TG (.instanceMethod yX6_withBase) := ⟨List.mem_of_getElem? (i := 872) (by decide +kernel), by decide +kernel⟩
theorem tg37 : TG (.selects yX6_withBase.cls yX6_withBase yX6_withBase) := ⟨List.mem_of_getElem? (i := 37) (by decide +kernel), by decide +kernel⟩
theorem lk_X6_116 : LV RX6 116 yX6_withBase cX6_withBase 9 (some .int) 2 := ⟨tg870, tg872, tg37, tg68, tg873, ⟨by decide +kernel, by decide +kernel, by decide +kernel⟩⟩
theorem tg880 : TG (.code yX6_asReal cX6_asReal 13 (some .int)) := ⟨List.mem_of_getElem? (i := 880) (by decide +kernel), by decide +kernel⟩
theorem tg877 : TG (.methodLink RX6 119 yX6_asReal) := ⟨List.mem_of_getElem? (i := 877) (by decide +kernel), by decide +kernel⟩
theorem tg879 : TG (.instanceMethod yX6_asReal) := ⟨List.mem_of_getElem? (i := 879) (by decide +kernel), by decide +kernel⟩
theorem tg38 : TG (.selects yX6_asReal.cls yX6_asReal yX6_asReal) := ⟨List.mem_of_getElem? (i := 38) (by decide +kernel), by decide +kernel⟩
theorem lk_X6_119 : LV RX6 119 yX6_asReal cX6_asReal 13 (some .int) 2 := ⟨tg877, tg879, tg38, tg68, tg880, ⟨by decide +kernel, by decide +kernel, by decide +kernel⟩⟩
theorem tg898 : TG (.code yX6_putSign cX6_putSign 2 none) := ⟨List.mem_of_getElem? (i := 898) (by decide +kernel), by decide +kernel⟩
theorem tg895 : TG (.methodLink RX6 122 yX6_putSign) := ⟨List.mem_of_getElem? (i := 895) (by decide +kernel), by decide +kernel⟩
theorem tg897 : TG (.instanceMethod yX6_putSign) := ⟨List.mem_of_getElem? (i := 897) (by decide +kernel), by decide +kernel⟩
theorem tg42 : TG (.selects yX6_putSign.cls yX6_putSign yX6_putSign) := ⟨List.mem_of_getElem? (i := 42) (by decide +kernel), by decide +kernel⟩
theorem lk_X6_122 : LV RX6 122 yX6_putSign cX6_putSign 2 none 1 := ⟨tg895, tg897, tg42, tg68, tg898, ⟨by decide +kernel, by decide +kernel, by decide +kernel⟩⟩
theorem tg894 : TG (.code yX6_escape cX6_escape 4 none) := ⟨List.mem_of_getElem? (i := 894) (by decide +kernel), by decide +kernel⟩
theorem tg891 : TG (.methodLink RX6 126 yX6_escape) := ⟨List.mem_of_getElem? (i := 891) (by decide +kernel), by decide +kernel⟩
theorem tg893 : TG (.instanceMethod yX6_escape) := ⟨List.mem_of_getElem? (i := 893) (by decide +kernel), by decide +kernel⟩
theorem tg41 : TG (.selects yX6_escape.cls yX6_escape yX6_escape) := ⟨List.mem_of_getElem? (i := 41) (by decide +kernel), by decide +kernel⟩
theorem lk_X6_126 : LV RX6 126 yX6_escape cX6_escape 4 none 0 := ⟨tg891, tg893, tg41, tg68, tg894, ⟨by decide +kernel, by decide +kernel, by decide +kernel⟩⟩
theorem tg902 : TG (.code yX6_finished cX6_finished 1 (some .int)) := ⟨List.mem_of_getElem? (i := 902) (by decide +kernel), by decide +kernel⟩
theorem tg899 : TG (.methodLink RX6 129 yX6_finished) := ⟨List.mem_of_getElem? (i := 899) (by decide +kernel), by decide +kernel⟩
theorem tg901 : TG (.instanceMethod yX6_finished) := ⟨List.mem_of_getElem? (i := 901) (by decide +kernel), by decide +kernel⟩
theorem tg43 : TG (.selects yX6_finished.cls yX6_finished yX6_finished) := ⟨List.mem_of_getElem? (i := 43) (by decide +kernel), by decide +kernel⟩
theorem lk_X6_129 : LV RX6 129 yX6_finished cX6_finished 1 (some .int) 0 := ⟨tg899, tg901, tg43, tg68, tg902, ⟨by decide +kernel, by decide +kernel, by decide +kernel⟩⟩
theorem tg906 : TG (.code yX6_lacking cX6_lacking 1 (some .int)) := ⟨List.mem_of_getElem? (i := 906) (by decide +kernel), by decide +kernel⟩
theorem tg903 : TG (.methodLink RX6 132 yX6_lacking) := ⟨List.mem_of_getElem? (i := 903) (by decide +kernel), by decide +kernel⟩
theorem tg905 : TG (.instanceMethod yX6_lacking) := ⟨List.mem_of_getElem? (i := 905) (by decide +kernel), by decide +kernel⟩
theorem tg44 : TG (.selects yX6_lacking.cls yX6_lacking yX6_lacking) := ⟨List.mem_of_getElem? (i := 44) (by decide +kernel), by decide +kernel⟩
theorem lk_X6_132 : LV RX6 132 yX6_lacking cX6_lacking 1 (some .int) 0 := ⟨tg903, tg905, tg44, tg68, tg906, ⟨by decide +kernel, by decide +kernel, by decide +kernel⟩⟩
theorem tg737 : TG (.fieldLink RX6 135 (TX6 19).1 (TX6 19).2.1 (TX6 19).2.2.1) := ⟨List.mem_of_getElem? (i := 737) (by decide +kernel), by decide +kernel⟩
theorem fl_X6_135 : FL RX6 135 7 19 RX6 TX6 30 := ⟨rfl, by decide, tg737, us_X6⟩
theorem tg920 : TG (.code yX6_wrongByte cX6_wrongByte 2 (some .int)) := ⟨List.mem_of_getElem? (i := 920) (by decide +kernel), by decide +kernel⟩
theorem tg917 : TG (.methodLink RX6 138 yX6_wrongByte) := ⟨List.mem_of_getElem? (i := 917) (by decide +kernel), by decide +kernel⟩
theorem tg919 : TG (.instanceMethod yX6_wrongByte) := ⟨List.mem_of_getElem? (i := 919) (by decide +kernel), by decide +kernel⟩
theorem tg47 : TG (.selects yX6_wrongByte.cls yX6_wrongByte yX6_wrongByte) := ⟨List.mem_of_getElem? (i := 47) (by decide +kernel), by decide +kernel⟩
theorem lk_X6_138 : LV RX6 138 yX6_wrongByte cX6_wrongByte 2 (some .int) 1 := ⟨tg917, tg919, tg47, tg68, tg920, ⟨by decide +kernel, by decide +kernel, by decide +kernel⟩⟩
theorem tg925 : TG (.constantLong RX6 141 (255)) := ⟨List.mem_of_getElem? (i := 925) (by decide +kernel), by decide +kernel⟩
theorem tg915 : TG (.constantLong RX6 143 (85)) := ⟨List.mem_of_getElem? (i := 915) (by decide +kernel), by decide +kernel⟩
theorem tg916 : TG (.constantLong RX6 145 (84)) := ⟨List.mem_of_getElem? (i := 916) (by decide +kernel), by decide +kernel⟩
theorem tg924 : TG (.code yX6_some cX6_some 5 none) := ⟨List.mem_of_getElem? (i := 924) (by decide +kernel), by decide +kernel⟩
theorem tg921 : TG (.methodLink RX6 147 yX6_some) := ⟨List.mem_of_getElem? (i := 921) (by decide +kernel), by decide +kernel⟩
theorem tg923 : TG (.instanceMethod yX6_some) := ⟨List.mem_of_getElem? (i := 923) (by decide +kernel), by decide +kernel⟩
theorem tg48 : TG (.selects yX6_some.cls yX6_some yX6_some) := ⟨List.mem_of_getElem? (i := 48) (by decide +kernel), by decide +kernel⟩
theorem lk_X6_147 : LV RX6 147 yX6_some cX6_some 5 none 2 := ⟨tg921, tg923, tg48, tg68, tg924, ⟨by decide +kernel, by decide +kernel, by decide +kernel⟩⟩
theorem tg926 : TG (.constantLong RX6 151 (33)) := ⟨List.mem_of_getElem? (i := 926) (by decide +kernel), by decide +kernel⟩
theorem tg914 : TG (.code yX6_eightyFives cX6_eightyFives 8 (some .int)) := ⟨List.mem_of_getElem? (i := 914) (by decide +kernel), by decide +kernel⟩
theorem tg911 : TG (.methodLink RX6 153 yX6_eightyFives) := ⟨List.mem_of_getElem? (i := 911) (by decide +kernel), by decide +kernel⟩
theorem tg913 : TG (.instanceMethod yX6_eightyFives) := ⟨List.mem_of_getElem? (i := 913) (by decide +kernel), by decide +kernel⟩
theorem tg46 : TG (.selects yX6_eightyFives.cls yX6_eightyFives yX6_eightyFives) := ⟨List.mem_of_getElem? (i := 46) (by decide +kernel), by decide +kernel⟩
theorem lk_X6_153 : LV RX6 153 yX6_eightyFives cX6_eightyFives 8 (some .int) 0 := ⟨tg911, tg913, tg46, tg68, tg914, ⟨by decide +kernel, by decide +kernel, by decide +kernel⟩⟩
theorem tg930 : TG (.code yX6_sixteens cX6_sixteens 4 (some .int)) := ⟨List.mem_of_getElem? (i := 930) (by decide +kernel), by decide +kernel⟩
theorem tg927 : TG (.methodLink RX6 156 yX6_sixteens) := ⟨List.mem_of_getElem? (i := 927) (by decide +kernel), by decide +kernel⟩
theorem tg929 : TG (.instanceMethod yX6_sixteens) := ⟨List.mem_of_getElem? (i := 929) (by decide +kernel), by decide +kernel⟩
theorem tg49 : TG (.selects yX6_sixteens.cls yX6_sixteens yX6_sixteens) := ⟨List.mem_of_getElem? (i := 49) (by decide +kernel), by decide +kernel⟩
theorem lk_X6_156 : LV RX6 156 yX6_sixteens cX6_sixteens 4 (some .int) 0 := ⟨tg927, tg929, tg49, tg68, tg930, ⟨by decide +kernel, by decide +kernel, by decide +kernel⟩⟩
theorem tg947 : TG (.constantLong RX6 159 (256)) := ⟨List.mem_of_getElem? (i := 947) (by decide +kernel), by decide +kernel⟩
theorem tg948 : TG (.constantLong RX6 161 (2)) := ⟨List.mem_of_getElem? (i := 948) (by decide +kernel), by decide +kernel⟩
theorem tg959 : TG (.constantDouble RX6 163 (4611686018427387904)) := ⟨List.mem_of_getElem? (i := 959) (by decide +kernel), by decide +kernel⟩
theorem tg946 : TG (.code yX6_signed cX6_signed 9 (some .long)) := ⟨List.mem_of_getElem? (i := 946) (by decide +kernel), by decide +kernel⟩
theorem tg943 : TG (.methodLink RX6 165 yX6_signed) := ⟨List.mem_of_getElem? (i := 943) (by decide +kernel), by decide +kernel⟩
theorem tg945 : TG (.instanceMethod yX6_signed) := ⟨List.mem_of_getElem? (i := 945) (by decide +kernel), by decide +kernel⟩
theorem tg53 : TG (.selects yX6_signed.cls yX6_signed yX6_signed) := ⟨List.mem_of_getElem? (i := 53) (by decide +kernel), by decide +kernel⟩
theorem lk_X6_165 : LV RX6 165 yX6_signed cX6_signed 9 (some .long) 3 := ⟨tg943, tg945, tg53, tg68, tg946, ⟨by decide +kernel, by decide +kernel, by decide +kernel⟩⟩
theorem tg964 : TG (.constantLong RX6 169 (8388607)) := ⟨List.mem_of_getElem? (i := 964) (by decide +kernel), by decide +kernel⟩
theorem tg747 : TG (.fieldLink RX6 171 (TX6 29).1 (TX6 29).2.1 (TX6 29).2.2.1) := ⟨List.mem_of_getElem? (i := 747) (by decide +kernel), by decide +kernel⟩
theorem fl_X6_171 : FL RX6 171 7 29 RX6 TX6 30 := ⟨rfl, by decide, tg747, us_X6⟩
theorem tg958 : TG (.code yX6_power cX6_power 4 (some .double)) := ⟨List.mem_of_getElem? (i := 958) (by decide +kernel), by decide +kernel⟩
theorem tg956 : TG (.methodLink RX6 174 yX6_power) := ⟨List.mem_of_getElem? (i := 956) (by decide +kernel), by decide +kernel⟩
theorem tg957 : TG (.static yX6_power) := ⟨List.mem_of_getElem? (i := 957) (by decide +kernel), by decide +kernel⟩
theorem lk_X6_174 : LSt RX6 174 yX6_power cX6_power 4 (some .double) 1 := ⟨tg956, tg957, tg68, tg958, ⟨by decide +kernel, by decide +kernel, by decide +kernel⟩⟩
theorem tg965 : TG (.constantLong RX6 178 (8388608)) := ⟨List.mem_of_getElem? (i := 965) (by decide +kernel), by decide +kernel⟩
theorem tg942 : TG (.code yX6_came cX6_came 2 (some .boolean)) := ⟨List.mem_of_getElem? (i := 942) (by decide +kernel), by decide +kernel⟩
theorem tg939 : TG (.methodLink RX6 180 yX6_came) := ⟨List.mem_of_getElem? (i := 939) (by decide +kernel), by decide +kernel⟩
theorem tg941 : TG (.instanceMethod yX6_came) := ⟨List.mem_of_getElem? (i := 941) (by decide +kernel), by decide +kernel⟩
theorem tg52 : TG (.selects yX6_came.cls yX6_came yX6_came) := ⟨List.mem_of_getElem? (i := 52) (by decide +kernel), by decide +kernel⟩
theorem lk_X6_180 : LV RX6 180 yX6_came cX6_came 2 (some .boolean) 1 := ⟨tg939, tg941, tg52, tg68, tg942, ⟨by decide +kernel, by decide +kernel, by decide +kernel⟩⟩
theorem tg744 : TG (.fieldLink RX6 183 (TX6 26).1 (TX6 26).2.1 (TX6 26).2.2.1) := ⟨List.mem_of_getElem? (i := 744) (by decide +kernel), by decide +kernel⟩
theorem fl_X6_183 : FL RX6 183 7 26 RX6 TX6 30 := ⟨rfl, by decide, tg744, us_X6⟩
theorem tg963 : TG (.code yX6_four cX6_four 11 (some .double)) := ⟨List.mem_of_getElem? (i := 963) (by decide +kernel), by decide +kernel⟩
theorem tg960 : TG (.methodLink RX6 186 yX6_four) := ⟨List.mem_of_getElem? (i := 960) (by decide +kernel), by decide +kernel⟩
theorem tg962 : TG (.instanceMethod yX6_four) := ⟨List.mem_of_getElem? (i := 962) (by decide +kernel), by decide +kernel⟩
theorem tg55 : TG (.selects yX6_four.cls yX6_four yX6_four) := ⟨List.mem_of_getElem? (i := 55) (by decide +kernel), by decide +kernel⟩
theorem lk_X6_186 : LV RX6 186 yX6_four cX6_four 11 (some .double) 2 := ⟨tg960, tg962, tg55, tg68, tg963, ⟨by decide +kernel, by decide +kernel, by decide +kernel⟩⟩
theorem tg743 : TG (.fieldLink RX6 190 (TX6 25).1 (TX6 25).2.1 (TX6 25).2.2.1) := ⟨List.mem_of_getElem? (i := 743) (by decide +kernel), by decide +kernel⟩
theorem fl_X6_190 : FL RX6 190 7 25 RX6 TX6 30 := ⟨rfl, by decide, tg743, us_X6⟩
theorem tg938 : TG (.code yX6_number cX6_number 3 (some .int)) := ⟨List.mem_of_getElem? (i := 938) (by decide +kernel), by decide +kernel⟩
theorem tg935 : TG (.methodLink RX6 193 yX6_number) := ⟨List.mem_of_getElem? (i := 935) (by decide +kernel), by decide +kernel⟩
theorem tg937 : TG (.instanceMethod yX6_number) := ⟨List.mem_of_getElem? (i := 937) (by decide +kernel), by decide +kernel⟩
theorem tg51 : TG (.selects yX6_number.cls yX6_number yX6_number) := ⟨List.mem_of_getElem? (i := 51) (by decide +kernel), by decide +kernel⟩
theorem lk_X6_193 : LV RX6 193 yX6_number cX6_number 3 (some .int) 2 := ⟨tg935, tg937, tg51, tg68, tg938, ⟨by decide +kernel, by decide +kernel, by decide +kernel⟩⟩
theorem tg951 : TG (.code yX6_asNumber cX6_asNumber 1 (some .int)) := ⟨List.mem_of_getElem? (i := 951) (by decide +kernel), by decide +kernel⟩
theorem tg949 : TG (.methodLink RX6 197 yX6_asNumber) := ⟨List.mem_of_getElem? (i := 949) (by decide +kernel), by decide +kernel⟩
theorem tg950 : TG (.static yX6_asNumber) := ⟨List.mem_of_getElem? (i := 950) (by decide +kernel), by decide +kernel⟩
theorem lk_X6_197 : LSt RX6 197 yX6_asNumber cX6_asNumber 1 (some .int) 1 := ⟨tg949, tg950, tg68, tg951, ⟨by decide +kernel, by decide +kernel, by decide +kernel⟩⟩
theorem tg955 : TG (.code yX6_fixed cX6_fixed 5 (some .int)) := ⟨List.mem_of_getElem? (i := 955) (by decide +kernel), by decide +kernel⟩
theorem tg952 : TG (.methodLink RX6 200 yX6_fixed) := ⟨List.mem_of_getElem? (i := 952) (by decide +kernel), by decide +kernel⟩
theorem tg954 : TG (.instanceMethod yX6_fixed) := ⟨List.mem_of_getElem? (i := 954) (by decide +kernel), by decide +kernel⟩
theorem tg54 : TG (.selects yX6_fixed.cls yX6_fixed yX6_fixed) := ⟨List.mem_of_getElem? (i := 54) (by decide +kernel), by decide +kernel⟩
theorem lk_X6_200 : LV RX6 200 yX6_fixed cX6_fixed 5 (some .int) 0 := ⟨tg952, tg954, tg54, tg68, tg955, ⟨by decide +kernel, by decide +kernel, by decide +kernel⟩⟩
theorem tg969 : TG (.code yX6_one cX6_one 3 (some .int)) := ⟨List.mem_of_getElem? (i := 969) (by decide +kernel), by decide +kernel⟩
theorem tg966 : TG (.methodLink RX6 203 yX6_one) := ⟨List.mem_of_getElem? (i := 966) (by decide +kernel), by decide +kernel⟩
theorem tg968 : TG (.instanceMethod yX6_one) := ⟨List.mem_of_getElem? (i := 968) (by decide +kernel), by decide +kernel⟩
theorem tg56 : TG (.selects yX6_one.cls yX6_one yX6_one) := ⟨List.mem_of_getElem? (i := 56) (by decide +kernel), by decide +kernel⟩
theorem lk_X6_203 : LV RX6 203 yX6_one cX6_one 3 (some .int) 2 := ⟨tg966, tg968, tg56, tg68, tg969, ⟨by decide +kernel, by decide +kernel, by decide +kernel⟩⟩
theorem tg973 : TG (.code yX6_string cX6_string 5 (some .int)) := ⟨List.mem_of_getElem? (i := 973) (by decide +kernel), by decide +kernel⟩
theorem tg970 : TG (.methodLink RX6 206 yX6_string) := ⟨List.mem_of_getElem? (i := 970) (by decide +kernel), by decide +kernel⟩
theorem tg972 : TG (.instanceMethod yX6_string) := ⟨List.mem_of_getElem? (i := 972) (by decide +kernel), by decide +kernel⟩
theorem tg57 : TG (.selects yX6_string.cls yX6_string yX6_string) := ⟨List.mem_of_getElem? (i := 57) (by decide +kernel), by decide +kernel⟩
theorem lk_X6_206 : LV RX6 206 yX6_string cX6_string 5 (some .int) 2 := ⟨tg970, tg972, tg57, tg68, tg973, ⟨by decide +kernel, by decide +kernel, by decide +kernel⟩⟩
theorem tg977 : TG (.code yX6_rows cX6_rows 8 (some .int)) := ⟨List.mem_of_getElem? (i := 977) (by decide +kernel), by decide +kernel⟩
theorem tg974 : TG (.methodLink RX6 209 yX6_rows) := ⟨List.mem_of_getElem? (i := 974) (by decide +kernel), by decide +kernel⟩
theorem tg976 : TG (.instanceMethod yX6_rows) := ⟨List.mem_of_getElem? (i := 976) (by decide +kernel), by decide +kernel⟩
theorem tg58 : TG (.selects yX6_rows.cls yX6_rows yX6_rows) := ⟨List.mem_of_getElem? (i := 58) (by decide +kernel), by decide +kernel⟩
theorem lk_X6_209 : LV RX6 209 yX6_rows cX6_rows 8 (some .int) 0 := ⟨tg974, tg976, tg58, tg68, tg977, ⟨by decide +kernel, by decide +kernel, by decide +kernel⟩⟩
theorem tg724 : TG (.fieldLink RX6 212 (TX6 6).1 (TX6 6).2.1 (TX6 6).2.2.1) := ⟨List.mem_of_getElem? (i := 724) (by decide +kernel), by decide +kernel⟩
theorem fl_X6_212 : FL RX6 212 7 6 RX6 TX6 30 := ⟨rfl, by decide, tg724, us_X6⟩
theorem tg849 : TG (.code yX6_anyWord cX6_anyWord 5 (some .int)) := ⟨List.mem_of_getElem? (i := 849) (by decide +kernel), by decide +kernel⟩
theorem tg846 : TG (.methodLink RX6 215 yX6_anyWord) := ⟨List.mem_of_getElem? (i := 846) (by decide +kernel), by decide +kernel⟩
theorem tg848 : TG (.instanceMethod yX6_anyWord) := ⟨List.mem_of_getElem? (i := 848) (by decide +kernel), by decide +kernel⟩
theorem tg33 : TG (.selects yX6_anyWord.cls yX6_anyWord yX6_anyWord) := ⟨List.mem_of_getElem? (i := 33) (by decide +kernel), by decide +kernel⟩
theorem lk_X6_215 : LV RX6 215 yX6_anyWord cX6_anyWord 5 (some .int) 0 := ⟨tg846, tg848, tg33, tg68, tg849, ⟨by decide +kernel, by decide +kernel, by decide +kernel⟩⟩
theorem tg886 : TG (.code yX6_slashed cX6_slashed 3 (some .int)) := ⟨List.mem_of_getElem? (i := 886) (by decide +kernel), by decide +kernel⟩
theorem tg883 : TG (.methodLink RX6 218 yX6_slashed) := ⟨List.mem_of_getElem? (i := 883) (by decide +kernel), by decide +kernel⟩
theorem tg885 : TG (.instanceMethod yX6_slashed) := ⟨List.mem_of_getElem? (i := 885) (by decide +kernel), by decide +kernel⟩
theorem tg39 : TG (.selects yX6_slashed.cls yX6_slashed yX6_slashed) := ⟨List.mem_of_getElem? (i := 39) (by decide +kernel), by decide +kernel⟩
theorem lk_X6_218 : LV RX6 218 yX6_slashed cX6_slashed 3 (some .int) 0 := ⟨tg883, tg885, tg39, tg68, tg886, ⟨by decide +kernel, by decide +kernel, by decide +kernel⟩⟩
theorem tg890 : TG (.code yX6_round cX6_round 3 (some .int)) := ⟨List.mem_of_getElem? (i := 890) (by decide +kernel), by decide +kernel⟩
theorem tg887 : TG (.methodLink RX6 221 yX6_round) := ⟨List.mem_of_getElem? (i := 887) (by decide +kernel), by decide +kernel⟩
theorem tg889 : TG (.instanceMethod yX6_round) := ⟨List.mem_of_getElem? (i := 889) (by decide +kernel), by decide +kernel⟩
theorem tg40 : TG (.selects yX6_round.cls yX6_round yX6_round) := ⟨List.mem_of_getElem? (i := 40) (by decide +kernel), by decide +kernel⟩
theorem lk_X6_221 : LV RX6 221 yX6_round cX6_round 3 (some .int) 0 := ⟨tg887, tg889, tg40, tg68, tg890, ⟨by decide +kernel, by decide +kernel, by decide +kernel⟩⟩
theorem tg910 : TG (.code yX6_angled cX6_angled 1 (some .int)) := ⟨List.mem_of_getElem? (i := 910) (by decide +kernel), by decide +kernel⟩
theorem tg907 : TG (.methodLink RX6 224 yX6_angled) := ⟨List.mem_of_getElem? (i := 907) (by decide +kernel), by decide +kernel⟩
theorem tg909 : TG (.instanceMethod yX6_angled) := ⟨List.mem_of_getElem? (i := 909) (by decide +kernel), by decide +kernel⟩
theorem tg45 : TG (.selects yX6_angled.cls yX6_angled yX6_angled) := ⟨List.mem_of_getElem? (i := 45) (by decide +kernel), by decide +kernel⟩
theorem lk_X6_224 : LV RX6 224 yX6_angled cX6_angled 1 (some .int) 0 := ⟨tg907, tg909, tg45, tg68, tg910, ⟨by decide +kernel, by decide +kernel, by decide +kernel⟩⟩
theorem tg934 : TG (.code yX6_binaryToken cX6_binaryToken 2 (some .int)) := ⟨List.mem_of_getElem? (i := 934) (by decide +kernel), by decide +kernel⟩
theorem tg931 : TG (.methodLink RX6 227 yX6_binaryToken) := ⟨List.mem_of_getElem? (i := 931) (by decide +kernel), by decide +kernel⟩
theorem tg933 : TG (.instanceMethod yX6_binaryToken) := ⟨List.mem_of_getElem? (i := 933) (by decide +kernel), by decide +kernel⟩
theorem tg50 : TG (.selects yX6_binaryToken.cls yX6_binaryToken yX6_binaryToken) := ⟨List.mem_of_getElem? (i := 50) (by decide +kernel), by decide +kernel⟩
theorem lk_X6_227 : LV RX6 227 yX6_binaryToken cX6_binaryToken 2 (some .int) 1 := ⟨tg931, tg933, tg50, tg68, tg934, ⟨by decide +kernel, by decide +kernel, by decide +kernel⟩⟩
theorem tg981 : TG (.code yX6_bracket cX6_bracket 2 (some .int)) := ⟨List.mem_of_getElem? (i := 981) (by decide +kernel), by decide +kernel⟩
theorem tg978 : TG (.methodLink RX6 230 yX6_bracket) := ⟨List.mem_of_getElem? (i := 978) (by decide +kernel), by decide +kernel⟩
theorem tg980 : TG (.instanceMethod yX6_bracket) := ⟨List.mem_of_getElem? (i := 980) (by decide +kernel), by decide +kernel⟩
theorem tg59 : TG (.selects yX6_bracket.cls yX6_bracket yX6_bracket) := ⟨List.mem_of_getElem? (i := 59) (by decide +kernel), by decide +kernel⟩
theorem lk_X6_230 : LV RX6 230 yX6_bracket cX6_bracket 2 (some .int) 1 := ⟨tg978, tg980, tg59, tg68, tg981, ⟨by decide +kernel, by decide +kernel, by decide +kernel⟩⟩
theorem tg726 : TG (.fieldLink RX6 233 (TX6 8).1 (TX6 8).2.1 (TX6 8).2.2.1) := ⟨List.mem_of_getElem? (i := 726) (by decide +kernel), by decide +kernel⟩
theorem fl_X6_233 : FL RX6 233 7 8 RX6 TX6 30 := ⟨rfl, by decide, tg726, us_X6⟩
theorem tg727 : TG (.fieldLink RX6 236 (TX6 9).1 (TX6 9).2.1 (TX6 9).2.2.1) := ⟨List.mem_of_getElem? (i := 727) (by decide +kernel), by decide +kernel⟩
theorem fl_X6_236 : FL RX6 236 7 9 RX6 TX6 30 := ⟨rfl, by decide, tg727, us_X6⟩
theorem tg728 : TG (.fieldLink RX6 239 (TX6 10).1 (TX6 10).2.1 (TX6 10).2.2.1) := ⟨List.mem_of_getElem? (i := 728) (by decide +kernel), by decide +kernel⟩
theorem fl_X6_239 : FL RX6 239 7 10 RX6 TX6 30 := ⟨rfl, by decide, tg728, us_X6⟩
theorem tg731 : TG (.fieldLink RX6 242 (TX6 13).1 (TX6 13).2.1 (TX6 13).2.2.1) := ⟨List.mem_of_getElem? (i := 731) (by decide +kernel), by decide +kernel⟩
theorem fl_X6_242 : FL RX6 242 7 13 RX6 TX6 30 := ⟨rfl, by decide, tg731, us_X6⟩
theorem tg733 : TG (.fieldLink RX6 245 (TX6 15).1 (TX6 15).2.1 (TX6 15).2.2.1) := ⟨List.mem_of_getElem? (i := 733) (by decide +kernel), by decide +kernel⟩
theorem fl_X6_245 : FL RX6 245 7 15 RX6 TX6 30 := ⟨rfl, by decide, tg733, us_X6⟩
theorem tg734 : TG (.fieldLink RX6 248 (TX6 16).1 (TX6 16).2.1 (TX6 16).2.2.1) := ⟨List.mem_of_getElem? (i := 734) (by decide +kernel), by decide +kernel⟩
theorem fl_X6_248 : FL RX6 248 7 16 RX6 TX6 30 := ⟨rfl, by decide, tg734, us_X6⟩
theorem tg828 : TG (.code yX6_passBlanks cX6_passBlanks 2 none) := ⟨List.mem_of_getElem? (i := 828) (by decide +kernel), by decide +kernel⟩
theorem tg825 : TG (.methodLink RX6 251 yX6_passBlanks) := ⟨List.mem_of_getElem? (i := 825) (by decide +kernel), by decide +kernel⟩
theorem tg827 : TG (.instanceMethod yX6_passBlanks) := ⟨List.mem_of_getElem? (i := 827) (by decide +kernel), by decide +kernel⟩
theorem tg30 : TG (.selects yX6_passBlanks.cls yX6_passBlanks yX6_passBlanks) := ⟨List.mem_of_getElem? (i := 30) (by decide +kernel), by decide +kernel⟩
theorem lk_X6_251 : LV RX6 251 yX6_passBlanks cX6_passBlanks 2 none 0 := ⟨tg825, tg827, tg30, tg68, tg828, ⟨by decide +kernel, by decide +kernel, by decide +kernel⟩⟩
theorem tg729 : TG (.fieldLink RX6 254 (TX6 11).1 (TX6 11).2.1 (TX6 11).2.2.1) := ⟨List.mem_of_getElem? (i := 729) (by decide +kernel), by decide +kernel⟩
theorem fl_X6_254 : FL RX6 254 7 11 RX6 TX6 30 := ⟨rfl, by decide, tg729, us_X6⟩
theorem tg839 : TG (.code yX6_read cX6_read 2 (some .int)) := ⟨List.mem_of_getElem? (i := 839) (by decide +kernel), by decide +kernel⟩
theorem tg836 : TG (.methodLink RX6 257 yX6_read) := ⟨List.mem_of_getElem? (i := 836) (by decide +kernel), by decide +kernel⟩
theorem tg838 : TG (.instanceMethod yX6_read) := ⟨List.mem_of_getElem? (i := 838) (by decide +kernel), by decide +kernel⟩
theorem tg32 : TG (.selects yX6_read.cls yX6_read yX6_read) := ⟨List.mem_of_getElem? (i := 32) (by decide +kernel), by decide +kernel⟩
theorem lk_X6_257 : LV RX6 257 yX6_read cX6_read 2 (some .int) 1 := ⟨tg836, tg838, tg32, tg68, tg839, ⟨by decide +kernel, by decide +kernel, by decide +kernel⟩⟩
theorem tg985 : TG (.code yX6_keep cX6_keep 3 none) := ⟨List.mem_of_getElem? (i := 985) (by decide +kernel), by decide +kernel⟩
theorem tg982 : TG (.methodLink RX6 260 yX6_keep) := ⟨List.mem_of_getElem? (i := 982) (by decide +kernel), by decide +kernel⟩
theorem tg984 : TG (.instanceMethod yX6_keep) := ⟨List.mem_of_getElem? (i := 984) (by decide +kernel), by decide +kernel⟩
theorem tg60 : TG (.selects yX6_keep.cls yX6_keep yX6_keep) := ⟨List.mem_of_getElem? (i := 60) (by decide +kernel), by decide +kernel⟩
theorem lk_X6_260 : LV RX6 260 yX6_keep cX6_keep 3 none 1 := ⟨tg982, tg984, tg60, tg68, tg985, ⟨by decide +kernel, by decide +kernel, by decide +kernel⟩⟩
end
section
/-! cells of the two systems, in the order of their fields; rows for compares of longs and for Math.max / Math.min -/
abbrev aB (G : GX) (a n : Nat) (B : Nat → Nat) : Nat × va_E := (a, .inl (gB G, n, .inl (fB B)))
abbrev aI (G : GX) (a n : Nat) (P : Nat → Int) : Nat × va_E := (a, .inl (gI G, n, .inl (fI P)))
abbrev aF (G : GX) (a n : Nat) (P : Nat → UInt64) : Nat × va_E := (a, .inl (gF G, n, .inr (.inr (.inr (.inl P)))))
abbrev aJ (G : GX) (a n : Nat) (P : Nat → Int) : Nat × va_E := (a, .inl (gJ G, n, .inr (.inl (fun j => lI (P j)))))
abbrev oBi (o b : Nat) : Nat × va_E := (o, .inr (1, [.ref b]))
abbrev oBy (o a : Nat) (n rd e : Int) : Nat × va_E := (o, .inr (2, [.ref a, .int (iI n), .int (iI rd), .int (iI e)]))
abbrev oSt (o b : Nat) : Nat × va_E := (o, .inr (3, [.ref b]))
abbrev oTk (o : Nat) (pl af wh : Int) (re : UInt64) (x : Nat) (len : Int) (i d : Nat) (ror rl : Int) : Nat × va_E := (o, .inr (4, [.int (iI pl), .int (iI af), .long (lI wh), .double re, .ref x, .int (iI len), .ref i, .ref d, .int (iI ror), .int (iI rl)]))
abbrev oWd (o b : Nat) (base : Int) : Nat × va_E := (o, .inr (5, [.ref b, .int (iI base)]))
abbrev oTR (o b w s i p : Nat) (br : Int) (lt dr : Nat) (lp : Int) : Nat × va_E := (o, .inr (6, [.ref b, .ref w, .ref s, .ref i, .ref p, .int (iI br), .ref lt, .ref dr, .int (iI lp)]))
abbrev oMo (o : Nat) (thrown size : Int) (bytes : Nat) (ended done at9 depth : Int) (opened : Nat) (kind whole : Int) (real : UInt64) (place base signs : Int) (text : Nat) (row rowIsReal : Int) (ints reals : Nat) (nPlace nWhole : Int) (nReal : UInt64) (nBase nSigns : Int) (nText : Nat) (nRow nIsReal : Int) (nInts nReals : Nat) (inf : Int) : Nat × va_E := (o, .inr (7, [.int (iI thrown), .int (iI size), .ref bytes, .int (iI ended), .int (iI done), .int (iI at9), .int (iI depth), .ref opened, .int (iI kind), .long (lI whole), .double real, .int (iI place), .int (iI base), .int (iI signs), .ref text, .int (iI row), .int (iI rowIsReal), .ref ints, .ref reals, .int (iI nPlace), .long (lI nWhole), .double nReal, .int (iI nBase), .int (iI nSigns), .ref nText, .int (iI nRow), .int (iI nIsReal), .ref nInts, .ref nReals, .int (iI inf)]))
def cm3 (a b : Int) : Int := if b < a then 1 else if a = b then 0 else -1
theorem cm3_R (a b : Int) : R32 (cm3 a b) := by
  unfold cm3
  by_cases h : b < a
  · rw [if_pos h]; decide
  · rw [if_neg h]
    by_cases h2 : a = b
    · rw [if_pos h2]; decide
    · rw [if_neg h2]; decide
theorem cm3_c (a b : Int) : (b < a ∧ cm3 a b = 1) ∨ (a = b ∧ cm3 a b = 0) ∨ (a < b ∧ cm3 a b = -1) := by
  unfold cm3
  by_cases h : b < a
  · rw [if_pos h]; exact Or.inl ⟨h, rfl⟩
  · rw [if_neg h]
    by_cases h2 : a = b
    · rw [if_pos h2]; exact Or.inr (Or.inl ⟨h2, rfl⟩)
    · rw [if_neg h2]; exact Or.inr (Or.inr ⟨by omega, rfl⟩)
theorem lgc {a b : Int} (ha : R64 a) (hb : R64 b) : lg_cmp (lI a) (lI b) = iI (cm3 a b) := by
  unfold lg_cmp cm3
  by_cases h : b < a
  · rw [if_pos h, if_pos ((lI_lt hb ha).mpr h)]; rfl
  · rw [if_neg h, if_neg (fun q => h ((lI_lt hb ha).mp q))]
    by_cases h2 : a = b
    · rw [if_pos h2, if_pos ((lI_eq ha hb).mpr h2)]; rfl
    · rw [if_neg h2, if_neg (fun q => h2 ((lI_eq ha hb).mp q))]; rfl
theorem sb_and9 {n : Nat} (h : n < 256) : sb n &&& iI 255 = iI n := sb_and h
section SB
variable {K : KX} {G : GX} {R0 : Room} {cc : ByteArray} {nL nc ns pc : Nat} {own : String} {lv : List (Nat × Value)} {st : List Value} {ws : va_W}
theorem s_lif_eq {off : Int} {a b : Int} (X : SK K G R0 cc nL own) (tgt : Nat) (d1 : decode cc pc = .ok (.lcmp, 1)) (d : decode cc (pc + 1) = .ok (.ifCond .eq off, 3)) (ht : ((pc + 1 : Nat) : Int) + off = (tgt : Int)) (hr : R64 a ∧ R64 b) (kt : a = b → SW K G nL nc ns tgt lv st ws) (kf : ¬ a = b → SW K G nL nc ns (pc + 4) lv st ws) : SW K G nL nc ns pc lv (.long (lI b) :: .long (lI a) :: st) ws := by
  refine s_lcmp X d1 ?_
  rw [lgc hr.1 hr.2]
  have h3 := cm3_c a b
  refine s_if_eq X tgt d ht (cm3_R a b) (fun h => kt ?_) (fun h => kf ?_) <;> omega
theorem s_lif_ne {off : Int} {a b : Int} (X : SK K G R0 cc nL own) (tgt : Nat) (d1 : decode cc pc = .ok (.lcmp, 1)) (d : decode cc (pc + 1) = .ok (.ifCond .ne off, 3)) (ht : ((pc + 1 : Nat) : Int) + off = (tgt : Int)) (hr : R64 a ∧ R64 b) (kt : ¬ a = b → SW K G nL nc ns tgt lv st ws) (kf : a = b → SW K G nL nc ns (pc + 4) lv st ws) : SW K G nL nc ns pc lv (.long (lI b) :: .long (lI a) :: st) ws := by
  refine s_lcmp X d1 ?_
  rw [lgc hr.1 hr.2]
  have h3 := cm3_c a b
  refine s_if_ne X tgt d ht (cm3_R a b) (fun h => kt ?_) (fun h => kf ?_) <;> omega
theorem s_lif_lt {off : Int} {a b : Int} (X : SK K G R0 cc nL own) (tgt : Nat) (d1 : decode cc pc = .ok (.lcmp, 1)) (d : decode cc (pc + 1) = .ok (.ifCond .lt off, 3)) (ht : ((pc + 1 : Nat) : Int) + off = (tgt : Int)) (hr : R64 a ∧ R64 b) (kt : a < b → SW K G nL nc ns tgt lv st ws) (kf : b ≤ a → SW K G nL nc ns (pc + 4) lv st ws) : SW K G nL nc ns pc lv (.long (lI b) :: .long (lI a) :: st) ws := by
  refine s_lcmp X d1 ?_
  rw [lgc hr.1 hr.2]
  have h3 := cm3_c a b
  refine s_if_lt X tgt d ht (cm3_R a b) (fun h => kt ?_) (fun h => kf ?_) <;> omega
theorem s_lif_ge {off : Int} {a b : Int} (X : SK K G R0 cc nL own) (tgt : Nat) (d1 : decode cc pc = .ok (.lcmp, 1)) (d : decode cc (pc + 1) = .ok (.ifCond .ge off, 3)) (ht : ((pc + 1 : Nat) : Int) + off = (tgt : Int)) (hr : R64 a ∧ R64 b) (kt : b ≤ a → SW K G nL nc ns tgt lv st ws) (kf : a < b → SW K G nL nc ns (pc + 4) lv st ws) : SW K G nL nc ns pc lv (.long (lI b) :: .long (lI a) :: st) ws := by
  refine s_lcmp X d1 ?_
  rw [lgc hr.1 hr.2]
  have h3 := cm3_c a b
  refine s_if_ge X tgt d ht (cm3_R a b) (fun h => kt ?_) (fun h => kf ?_) <;> omega
theorem s_lif_gt {off : Int} {a b : Int} (X : SK K G R0 cc nL own) (tgt : Nat) (d1 : decode cc pc = .ok (.lcmp, 1)) (d : decode cc (pc + 1) = .ok (.ifCond .gt off, 3)) (ht : ((pc + 1 : Nat) : Int) + off = (tgt : Int)) (hr : R64 a ∧ R64 b) (kt : b < a → SW K G nL nc ns tgt lv st ws) (kf : a ≤ b → SW K G nL nc ns (pc + 4) lv st ws) : SW K G nL nc ns pc lv (.long (lI b) :: .long (lI a) :: st) ws := by
  refine s_lcmp X d1 ?_
  rw [lgc hr.1 hr.2]
  have h3 := cm3_c a b
  refine s_if_gt X tgt d ht (cm3_R a b) (fun h => kt ?_) (fun h => kf ?_) <;> omega
theorem s_lif_le {off : Int} {a b : Int} (X : SK K G R0 cc nL own) (tgt : Nat) (d1 : decode cc pc = .ok (.lcmp, 1)) (d : decode cc (pc + 1) = .ok (.ifCond .le off, 3)) (ht : ((pc + 1 : Nat) : Int) + off = (tgt : Int)) (hr : R64 a ∧ R64 b) (kt : a ≤ b → SW K G nL nc ns tgt lv st ws) (kf : b < a → SW K G nL nc ns (pc + 4) lv st ws) : SW K G nL nc ns pc lv (.long (lI b) :: .long (lI a) :: st) ws := by
  refine s_lcmp X d1 ?_
  rw [lgc hr.1 hr.2]
  have h3 := cm3_c a b
  refine s_if_le X tgt d ht (cm3_R a b) (fun h => kt ?_) (fun h => kf ?_) <;> omega
theorem s_mmax {idx : Nat} {a b : Int} (X : SK K G R0 cc nL own) (w1 : TG (.methodLink own idx Lib.Math.max.name)) (w2 : TG (.static Lib.Math.max.name)) (w3 : TG (.initialized "java/lang/Math")) (w4 : TG (.code Lib.Math.max.name Lib.Math.max.code 2 (some .int))) (hroom : (1 ≤ R0.frames ∧ (st.map fun v => v.category).sum + 13 ≤ R0.locals) ∧ nc ≤ R0.cells ∧ ns ≤ R0.slots) (d : decode cc pc = .ok (.invokestatic idx, 3)) (hr : R32 a ∧ R32 b) (k : SW K G nL nc ns (pc + 3) lv (.int (iI (if a < b then b else a)) :: st) ws) : SW K G nL nc ns pc lv (.int (iI b) :: .int (iI a) :: st) ws := by
  intro H locs ls hP hD hS hl
  have hRk : kR K = R0 := X.2.2.2.2.2.2
  refine va_mmax X.1 X.2.1 (X.2.2.1.trans hl.1.symm) X.2.2.2.1 (X.tb w1 _) (X.tb w2 _) (X.tb w3 _) (X.tb w4 _) (by rw [hRk]; exact hroom.1.1) (by rw [hRk]; exact hroom.1.2) (by rw [hRk]; exact hroom.2.1) (by rw [hRk]; exact hroom.2.2) d ?_
  have e : (if iI a < iI b then iI b else iI a) = iI (if a < b then b else a) := by
    by_cases h : a < b
    · rw [if_pos h, if_pos ((iI_lt hr.1 hr.2).mpr h)]
    · rw [if_neg h, if_neg (fun q => h ((iI_lt hr.1 hr.2).mp q))]
  rw [e]
  exact k H locs ls hP hD hS hl
theorem s_mminL {idx : Nat} {a b : Int} (X : SK K G R0 cc nL own) (w1 : TG (.methodLink own idx Lib.MathLoose.min_long.x)) (w2 : TG (.static Lib.MathLoose.min_long.x)) (w3 : TG (.initialized "java/lang/Math")) (w4 : TG (.code Lib.MathLoose.min_long.x Lib.MathLoose.min_long.code 4 (some .long))) (hroom : (1 ≤ R0.frames ∧ (st.map fun v => v.category).sum + 15 ≤ R0.locals) ∧ nc ≤ R0.cells ∧ ns ≤ R0.slots) (d : decode cc pc = .ok (.invokestatic idx, 3)) (hr : R64 a ∧ R64 b) (k : SW K G nL nc ns (pc + 3) lv (.long (lI (if b < a then b else a)) :: st) ws) : SW K G nL nc ns pc lv (.long (lI b) :: .long (lI a) :: st) ws := by
  intro H locs ls hP hD hS hl
  have hRk : kR K = R0 := X.2.2.2.2.2.2
  refine va_mmin_long X.1 X.2.1 (X.2.2.1.trans hl.1.symm) X.2.2.2.1 (X.tb w1 _) (X.tb w2 _) (X.tb w3 _) (X.tb w4 _) (by rw [hRk]; exact hroom.1.1) (by rw [hRk]; exact hroom.1.2) (by rw [hRk]; exact hroom.2.1) (by rw [hRk]; exact hroom.2.2) d ?_
  have e : (if lI b < lI a then lI b else lI a) = lI (if b < a then b else a) := by
    by_cases h : b < a
    · rw [if_pos h, if_pos ((lI_lt hr.2 hr.1).mpr h)]
    · rw [if_neg h, if_neg (fun q => h ((lI_lt hr.2 hr.1).mp q))]
  rw [e]
  exact k H locs ls hP hD hS hl
theorem s_bastI {a n : Nat} {B : Nat → Nat} {z v : Int} (X : SK K G R0 cc nL own) (d : decode cc pc = .ok (.bastore, 1)) (i : Nat) (he : ws[i]? = some (a, .inl (gB G, n, .inl (fB B)))) (hz : 0 ≤ z ∧ z < n ∧ n < 2147483648) (ws9 : va_W) (hw : ws.set i (a, .inl (gB G, n, .inl (fB (uB B z.toNat (by8 v))))) = ws9) (k : SW K G nL nc ns (pc + 1) lv st ws9) : SW K G nL nc ns pc lv (.int (iI v) :: .int (iI z) :: .ref a :: st) ws := by
  intro H locs ls hP hD hS hl
  subst hw
  refine va_bast X.1 X.2.1 X.2.2.2.2.1.1 hP hD hS i 0 he rfl (iI_in hz.1 hz.2.1 hz.2.2) d (fun H1 locs1 hP1 hD1 hS1 => ?_)
  rw [iI_cl ⟨by omega, by omega⟩, vp_nar_byte, sb_of, fB_up] at hP1 hD1
  exact k H1 locs1 ls hP1 hD1 hS1 hl
end SB
theorem tm_max1 : TG (.methodLink RX2 38 Lib.Math.max.name) := ⟨List.mem_of_getElem? (i := 417) (by decide +kernel), by decide +kernel⟩
theorem tm_max2 : TG (.static Lib.Math.max.name) := ⟨List.mem_of_getElem? (i := 418) (by decide +kernel), by decide +kernel⟩
theorem tm_ini : TG (.initialized "java/lang/Math") := ⟨List.mem_of_getElem? (i := 74) (by decide +kernel), by decide +kernel⟩
theorem tm_max4 : TG (.code Lib.Math.max.name Lib.Math.max.code 2 (some .int)) := ⟨List.mem_of_getElem? (i := 419) (by decide +kernel), by decide +kernel⟩
theorem tm_min1 : TG (.methodLink RX4 118 Lib.MathLoose.min_long.x) := ⟨List.mem_of_getElem? (i := 489) (by decide +kernel), by decide +kernel⟩
theorem tm_min2 : TG (.static Lib.MathLoose.min_long.x) := ⟨List.mem_of_getElem? (i := 490) (by decide +kernel), by decide +kernel⟩
theorem tm_min4 : TG (.code Lib.MathLoose.min_long.x Lib.MathLoose.min_long.code 4 (some .long)) := ⟨List.mem_of_getElem? (i := 491) (by decide +kernel), by decide +kernel⟩
end
section
/-! WHAT IS READ, as functions of the bytes: B the bytes 0 .. 255, n how many, all indices Ints -/
def bA (B : Nat → Nat) (n i : Int) : Int := if 0 ≤ i ∧ i < n then (B i.toNat : Int) else -1
theorem bA_R {B : Nat → Nat} (n i : Int) (h : ∀ j, B j < 256) : -1 ≤ bA B n i ∧ bA B n i < 256 := by
  unfold bA
  by_cases c : 0 ≤ i ∧ i < n
  · rw [if_pos c]; have := h i.toNat; omega
  · rw [if_neg c]; omega
theorem bA_in {B : Nat → Nat} {n i : Int} (c : 0 ≤ i ∧ i < n) : bA B n i = (B i.toNat : Int) := if_pos c
theorem bA_out {B : Nat → Nat} {n i : Int} (c : ¬ (0 ≤ i ∧ i < n)) : bA B n i = -1 := if_neg c
theorem bA_C {B : Nat → Nat} (n i : Int) (h : ∀ j, B j < 256) : (0 ≤ i ∧ i < n ∧ 0 ≤ bA B n i ∧ bA B n i < 256) ∨ (¬ (0 ≤ i ∧ i < n) ∧ bA B n i = -1) := by
  by_cases c : 0 ≤ i ∧ i < n
  · rw [bA_in c]; have := h i.toNat; omega
  · rw [bA_out c]; exact Or.inr ⟨c, rfl⟩
abbrev wh (c : Int) : Prop := c = 0 ∨ c = 9 ∨ c = 10 ∨ c = 12 ∨ c = 13 ∨ c = 32
abbrev ow (c : Int) : Prop := c = 37 ∨ c = 40 ∨ c = 41 ∨ c = 47 ∨ c = 60 ∨ c = 62 ∨ c = 91 ∨ c = 93 ∨ c = 123 ∨ c = 125
abbrev pl (c : Int) : Prop := 159 < c ∨ (0 ≤ c ∧ c < 128 ∧ ¬ wh c ∧ ¬ ow c)
/-- the end of the WORD from i on -/
def weF (B : Nat → Nat) (n : Int) : Nat → Int → Int
  | 0, _ => n
  | k + 1, i => if pl (bA B n i) then weF B n k (i + 1) else i
def we (B : Nat → Nat) (n i : Int) : Int := weF B n (n - i).toNat i
theorem we_out {B : Nat → Nat} {n i : Int} (h : n ≤ i) : we B n i = n := by
  unfold we; rw [show (n - i).toNat = 0 by omega]; rfl
theorem we_s {B : Nat → Nat} {n i : Int} (h : i < n) : we B n i = if pl (bA B n i) then we B n (i + 1) else i := by
  unfold we
  obtain ⟨k, hk⟩ : ∃ k, (n - i).toNat = k + 1 := ⟨(n - i).toNat - 1, by omega⟩
  rw [hk, show (n - (i + 1)).toNat = k by omega]; rfl
theorem we_R {B : Nat → Nat} {n : Int} : ∀ (k : Nat) (i : Int), (n - i).toNat = k → i ≤ n → i ≤ we B n i ∧ we B n i ≤ n
  | 0, i, hk, h => by rw [we_out (by omega)]; omega
  | k + 1, i, hk, h => by
    rw [we_s (by omega)]
    split
    · have := we_R (B := B) (n := n) k (i + 1) (by omega) (by omega); omega
    · omega
/-- within a comment behind the byte b? c: before it -/
def cmt (c b : Int) : Int := if c = 0 then (if b = 37 then 1 else 0) else (if b = 10 ∨ b = 12 ∨ b = 13 then 0 else 1)
/-- the first byte from i on that is not WHITE; c: within a comment (0: no) -/
def fwF (B : Nat → Nat) (n : Int) : Nat → Int → Int → Int
  | 0, _, _ => n
  | k + 1, i, c => if cmt c (bA B n i) = 0 ∧ ¬ wh (bA B n i) then i else fwF B n k (i + 1) (cmt c (bA B n i))
def fw (B : Nat → Nat) (n i c : Int) : Int := fwF B n (n - i).toNat i c
theorem fw_out {B : Nat → Nat} {n i c : Int} (h : n ≤ i) : fw B n i c = n := by
  unfold fw; rw [show (n - i).toNat = 0 by omega]; rfl
theorem fw_s {B : Nat → Nat} {n i c : Int} (h : i < n) : fw B n i c = if cmt c (bA B n i) = 0 ∧ ¬ wh (bA B n i) then i else fw B n (i + 1) (cmt c (bA B n i)) := by
  unfold fw
  obtain ⟨k, hk⟩ : ∃ k, (n - i).toNat = k + 1 := ⟨(n - i).toNat - 1, by omega⟩
  rw [hk, show (n - (i + 1)).toNat = k by omega]; rfl
theorem fw_R {B : Nat → Nat} {n : Int} : ∀ (k : Nat) (i c : Int), (n - i).toNat = k → i ≤ n → i ≤ fw B n i c ∧ fw B n i c ≤ n
  | 0, i, c, hk, h => by rw [fw_out (by omega)]; omega
  | k + 1, i, c, hk, h => by
    rw [fw_s (by omega)]
    split
    · omega
    · have := fw_R (B := B) (n := n) k (i + 1) (cmt c (bA B n i)) (by omega) (by omega); omega
end
section
set_option maxRecDepth 100000 in
set_option maxHeartbeats 4000000 in
theorem c_X1_has (l : Launch) (G : GX) (b : Nat) (a : Nat) (n : Int) (rd : Int) (e : Int) (i : Int) (hn : 0 ≤ n ∧ n ≤ 3000) (hi : R32 i) : CtI l G yX1_has cX1_has 2 (some .boolean) ({ frames := 0, cells := 0, slots := 0, locals := 0 } : Room) [.ref b, .int (iI i)] [oBy b a n rd e] (fun (z : Int) (w : va_W) => z = (tf (0 ≤ i ∧ i < n)) ∧ w = [oBy b a n rd e]) := by
  intro sz
  refine met_of (fun wc sz => va_Qi (qI _) (posW G wc sz) (va_A wc sz)) (by decide) [(0, .ref b), (1, .int (iI i))] rfl (Nat.le_of_ble_eq_true rfl) (fun K hK9 hnm X Y => ?_)
  subst hK9
  replace Y : RI K G (some .boolean) 0 0 _ := Y
  refine s_iload_n X dX1_has_0 rfl 1 rfl ?_
  refine s_if_lt X 16 dX1_has_1 (by decide) (by omega) (fun c1 => ?_) (fun c1 => ?_)
  · refine s_iconst X dX1_has_16 ?_
    refine s_iret X Y dX1_has_17 (rfl) ?_
    refine ⟨?_, rfl⟩
    · (first | (exfalso; omega) | (first | exact (tf_t (by omega)).symm | exact (tf_f (by omega)).symm))
  · refine s_iload_n X dX1_has_4 rfl 1 rfl ?_
    refine s_aload_n X dX1_has_5 rfl 0 rfl ?_
    refine s_get X dX1_has_6 fl_X1_15 0 rfl rfl ?_
    refine s_icmp_ge X 16 dX1_has_9 (by decide) (by omega) (fun c9 => ?_) (fun c9 => ?_)
    · refine s_iconst X dX1_has_16 ?_
      refine s_iret X Y dX1_has_17 (rfl) ?_
      refine ⟨?_, rfl⟩
      · (first | (exfalso; omega) | (first | exact (tf_t (by omega)).symm | exact (tf_f (by omega)).symm))
    · refine s_iconst X dX1_has_12 ?_
      refine s_goto X 17 dX1_has_13 (by decide) ?_
      refine s_iret X Y dX1_has_17 (rfl) ?_
      refine ⟨?_, rfl⟩
      · (first | (exfalso; omega) | (first | exact (tf_t (by omega)).symm | exact (tf_f (by omega)).symm))
set_option maxRecDepth 100000 in
set_option maxHeartbeats 4000000 in
theorem c_X1_at (l : Launch) (G : GX) (b : Nat) (a : Nat) (n : Int) (rd : Int) (e : Int) (B : Nat → Nat) (i : Int) (hn : 0 ≤ n ∧ n ≤ 3000) (hBb : ∀ j, B j < 256) (hi : R32 i) : CtI l G yX1_at cX1_at 2 (some .int) ({ frames := 1, cells := 0, slots := 0, locals := 21 } : Room) [.ref b, .int (iI i)] [oBy b a n rd e, aB G a 3000 B] (fun (z : Int) (w : va_W) => z = (bA B n i) ∧ w = [oBy b a n rd e, aB G a 3000 B]) := by
  intro sz
  refine met_of (fun wc sz => va_Qi (qI _) (posW G wc sz) (va_A wc sz)) (by decide) [(0, .ref b), (1, .int (iI i))] rfl (Nat.le_of_ble_eq_true rfl) (fun K hK9 hnm X Y => ?_)
  subst hK9
  replace Y : RI K G (some .int) 0 0 _ := Y
  refine s_aload_n X dX1_at_0 rfl 0 rfl ?_
  refine s_iload_n X dX1_at_1 rfl 1 rfl ?_
  refine s_callIV X lk_X1_26 [0] [1] (wr := [aB G a 3000 B]) rfl rfl (by decide) (by decide) (by decide) (c_X1_has (kl K) G b a n rd e i (by assumption) (by omega)) rfl rfl dX1_at_2 rfl rfl (by decide) (by decide) (fun z1 w1 h1 => ?_)
  obtain ⟨rfl, rfl⟩ := h1
  show SW K G 2 0 0 5 [(0, .ref b), (1, .int (iI i))] [.int (iI (tf (0 ≤ i ∧ i < n)))] [aB G a 3000 B, oBy b a n rd e]
  refine s_tf_eq X 21 dX1_at_5 (by decide) (fun c5 => ?_) (fun c5 => ?_)
  · refine s_iconst X dX1_at_21 ?_
    refine s_perm (ws' := [oBy b a n rd e, aB G a 3000 B]) [1, 0] (by decide) rfl rfl ?_
    refine s_iret X Y dX1_at_22 (rfl) ?_
    refine ⟨?_, rfl⟩
    · (first | (exfalso; omega) | (first | exact (bA_in ‹_›).symm | exact (bA_out ‹_›).symm))
  · refine s_aload_n X dX1_at_8 rfl 0 rfl ?_
    refine s_get X dX1_at_9 fl_X1_9 1 rfl rfl ?_
    refine s_iload_n X dX1_at_12 rfl 1 rfl ?_
    refine s_bald X dX1_at_13 0 rfl (by omega) ?_
    refine s_sipush 255 X dX1_at_14 (by decide) ?_
    refine s_iand (z := (((B i.toNat) : Nat) : Int)) X dX1_at_17 (sb_and9 (hBb _)) ?_
    refine s_goto X 22 dX1_at_18 (by decide) ?_
    refine s_perm (ws' := [oBy b a n rd e, aB G a 3000 B]) [1, 0] (by decide) rfl rfl ?_
    refine s_iret X Y dX1_at_22 (rfl) ?_
    refine ⟨?_, rfl⟩
    · (first | (exfalso; omega) | (first | exact (bA_in ‹_›).symm | exact (bA_out ‹_›).symm))
set_option maxRecDepth 100000 in
set_option maxHeartbeats 4000000 in
theorem c_X1_isWhite (l : Launch) (G : GX) (c : Int) (hc : R32 c) : CtI l G yX1_isWhite cX1_isWhite 1 (some .boolean) ({ frames := 0, cells := 0, slots := 0, locals := 0 } : Room) [.int (iI c)] [] (fun (z : Int) (w : va_W) => z = (tf (wh c)) ∧ w = []) := by
  intro sz
  refine met_of (fun wc sz => va_Qi (qI _) (posW G wc sz) (va_A wc sz)) (by decide) [(0, .int (iI c))] rfl (Nat.le_of_ble_eq_true rfl) (fun K hK9 hnm X Y => ?_)
  subst hK9
  replace Y : RI K G (some .boolean) 0 0 _ := Y
  refine s_iload_n X dX1_isWhite_0 rfl 0 rfl ?_
  refine s_if_eq X 34 dX1_isWhite_1 (by decide) (by omega) (fun c1 => ?_) (fun c1 => ?_)
  · refine s_iconst X dX1_isWhite_34 ?_
    refine s_goto X 39 dX1_isWhite_35 (by decide) ?_
    refine s_iret X Y dX1_isWhite_39 (rfl) ?_
    refine ⟨?_, rfl⟩
    · (first | (exfalso; omega) | (first | exact (tf_t (by omega)).symm | exact (tf_f (by omega)).symm))
  · refine s_iload_n X dX1_isWhite_4 rfl 0 rfl ?_
    refine s_bipush 9 X dX1_isWhite_5 (by decide) ?_
    refine s_icmp_eq X 34 dX1_isWhite_7 (by decide) (by omega) (fun c7 => ?_) (fun c7 => ?_)
    · refine s_iconst X dX1_isWhite_34 ?_
      refine s_goto X 39 dX1_isWhite_35 (by decide) ?_
      refine s_iret X Y dX1_isWhite_39 (rfl) ?_
      refine ⟨?_, rfl⟩
      · (first | (exfalso; omega) | (first | exact (tf_t (by omega)).symm | exact (tf_f (by omega)).symm))
    · refine s_iload_n X dX1_isWhite_10 rfl 0 rfl ?_
      refine s_bipush 10 X dX1_isWhite_11 (by decide) ?_
      refine s_icmp_eq X 34 dX1_isWhite_13 (by decide) (by omega) (fun c13 => ?_) (fun c13 => ?_)
      · refine s_iconst X dX1_isWhite_34 ?_
        refine s_goto X 39 dX1_isWhite_35 (by decide) ?_
        refine s_iret X Y dX1_isWhite_39 (rfl) ?_
        refine ⟨?_, rfl⟩
        · (first | (exfalso; omega) | (first | exact (tf_t (by omega)).symm | exact (tf_f (by omega)).symm))
      · refine s_iload_n X dX1_isWhite_16 rfl 0 rfl ?_
        refine s_bipush 12 X dX1_isWhite_17 (by decide) ?_
        refine s_icmp_eq X 34 dX1_isWhite_19 (by decide) (by omega) (fun c19 => ?_) (fun c19 => ?_)
        · refine s_iconst X dX1_isWhite_34 ?_
          refine s_goto X 39 dX1_isWhite_35 (by decide) ?_
          refine s_iret X Y dX1_isWhite_39 (rfl) ?_
          refine ⟨?_, rfl⟩
          · (first | (exfalso; omega) | (first | exact (tf_t (by omega)).symm | exact (tf_f (by omega)).symm))
        · refine s_iload_n X dX1_isWhite_22 rfl 0 rfl ?_
          refine s_bipush 13 X dX1_isWhite_23 (by decide) ?_
          refine s_icmp_eq X 34 dX1_isWhite_25 (by decide) (by omega) (fun c25 => ?_) (fun c25 => ?_)
          · refine s_iconst X dX1_isWhite_34 ?_
            refine s_goto X 39 dX1_isWhite_35 (by decide) ?_
            refine s_iret X Y dX1_isWhite_39 (rfl) ?_
            refine ⟨?_, rfl⟩
            · (first | (exfalso; omega) | (first | exact (tf_t (by omega)).symm | exact (tf_f (by omega)).symm))
          · refine s_iload_n X dX1_isWhite_28 rfl 0 rfl ?_
            refine s_bipush 32 X dX1_isWhite_29 (by decide) ?_
            refine s_icmp_ne X 38 dX1_isWhite_31 (by decide) (by omega) (fun c31 => ?_) (fun c31 => ?_)
            · refine s_iconst X dX1_isWhite_38 ?_
              refine s_iret X Y dX1_isWhite_39 (rfl) ?_
              refine ⟨?_, rfl⟩
              · (first | (exfalso; omega) | (first | exact (tf_t (by omega)).symm | exact (tf_f (by omega)).symm))
            · refine s_iconst X dX1_isWhite_34 ?_
              refine s_goto X 39 dX1_isWhite_35 (by decide) ?_
              refine s_iret X Y dX1_isWhite_39 (rfl) ?_
              refine ⟨?_, rfl⟩
              · (first | (exfalso; omega) | (first | exact (tf_t (by omega)).symm | exact (tf_f (by omega)).symm))
set_option maxRecDepth 100000 in
set_option maxHeartbeats 4000000 in
theorem c_X1_isOwn (l : Launch) (G : GX) (c : Int) (hc : R32 c) : CtI l G yX1_isOwn cX1_isOwn 1 (some .boolean) ({ frames := 0, cells := 0, slots := 0, locals := 0 } : Room) [.int (iI c)] [] (fun (z : Int) (w : va_W) => z = (tf (ow c)) ∧ w = []) := by
  intro sz
  refine met_of (fun wc sz => va_Qi (qI _) (posW G wc sz) (va_A wc sz)) (by decide) [(0, .int (iI c))] rfl (Nat.le_of_ble_eq_true rfl) (fun K hK9 hnm X Y => ?_)
  subst hK9
  replace Y : RI K G (some .boolean) 0 0 _ := Y
  refine s_iload_n X dX1_isOwn_0 rfl 0 rfl ?_
  by_cases c1 : c = 37
  · refine s_lookup X 92 dX1_isOwn_1 (by decide) (by omega) (by rw [c1]; try decide) (by decide) ?_
    refine s_iconst X dX1_isOwn_92 ?_
    refine s_iret X Y dX1_isOwn_93 (rfl) ?_
    refine ⟨?_, rfl⟩
    · (first | (exfalso; omega) | (first | exact (tf_t (by omega)).symm | exact (tf_f (by omega)).symm))
  have c1_37 := c1
  by_cases c1 : c = 40
  · refine s_lookup X 92 dX1_isOwn_1 (by decide) (by omega) (by rw [c1]; try decide) (by decide) ?_
    refine s_iconst X dX1_isOwn_92 ?_
    refine s_iret X Y dX1_isOwn_93 (rfl) ?_
    refine ⟨?_, rfl⟩
    · (first | (exfalso; omega) | (first | exact (tf_t (by omega)).symm | exact (tf_f (by omega)).symm))
  have c1_40 := c1
  by_cases c1 : c = 41
  · refine s_lookup X 92 dX1_isOwn_1 (by decide) (by omega) (by rw [c1]; try decide) (by decide) ?_
    refine s_iconst X dX1_isOwn_92 ?_
    refine s_iret X Y dX1_isOwn_93 (rfl) ?_
    refine ⟨?_, rfl⟩
    · (first | (exfalso; omega) | (first | exact (tf_t (by omega)).symm | exact (tf_f (by omega)).symm))
  have c1_41 := c1
  by_cases c1 : c = 47
  · refine s_lookup X 92 dX1_isOwn_1 (by decide) (by omega) (by rw [c1]; try decide) (by decide) ?_
    refine s_iconst X dX1_isOwn_92 ?_
    refine s_iret X Y dX1_isOwn_93 (rfl) ?_
    refine ⟨?_, rfl⟩
    · (first | (exfalso; omega) | (first | exact (tf_t (by omega)).symm | exact (tf_f (by omega)).symm))
  have c1_47 := c1
  by_cases c1 : c = 60
  · refine s_lookup X 92 dX1_isOwn_1 (by decide) (by omega) (by rw [c1]; try decide) (by decide) ?_
    refine s_iconst X dX1_isOwn_92 ?_
    refine s_iret X Y dX1_isOwn_93 (rfl) ?_
    refine ⟨?_, rfl⟩
    · (first | (exfalso; omega) | (first | exact (tf_t (by omega)).symm | exact (tf_f (by omega)).symm))
  have c1_60 := c1
  by_cases c1 : c = 62
  · refine s_lookup X 92 dX1_isOwn_1 (by decide) (by omega) (by rw [c1]; try decide) (by decide) ?_
    refine s_iconst X dX1_isOwn_92 ?_
    refine s_iret X Y dX1_isOwn_93 (rfl) ?_
    refine ⟨?_, rfl⟩
    · (first | (exfalso; omega) | (first | exact (tf_t (by omega)).symm | exact (tf_f (by omega)).symm))
  have c1_62 := c1
  by_cases c1 : c = 91
  · refine s_lookup X 92 dX1_isOwn_1 (by decide) (by omega) (by rw [c1]; try decide) (by decide) ?_
    refine s_iconst X dX1_isOwn_92 ?_
    refine s_iret X Y dX1_isOwn_93 (rfl) ?_
    refine ⟨?_, rfl⟩
    · (first | (exfalso; omega) | (first | exact (tf_t (by omega)).symm | exact (tf_f (by omega)).symm))
  have c1_91 := c1
  by_cases c1 : c = 93
  · refine s_lookup X 92 dX1_isOwn_1 (by decide) (by omega) (by rw [c1]; try decide) (by decide) ?_
    refine s_iconst X dX1_isOwn_92 ?_
    refine s_iret X Y dX1_isOwn_93 (rfl) ?_
    refine ⟨?_, rfl⟩
    · (first | (exfalso; omega) | (first | exact (tf_t (by omega)).symm | exact (tf_f (by omega)).symm))
  have c1_93 := c1
  by_cases c1 : c = 123
  · refine s_lookup X 92 dX1_isOwn_1 (by decide) (by omega) (by rw [c1]; try decide) (by decide) ?_
    refine s_iconst X dX1_isOwn_92 ?_
    refine s_iret X Y dX1_isOwn_93 (rfl) ?_
    refine ⟨?_, rfl⟩
    · (first | (exfalso; omega) | (first | exact (tf_t (by omega)).symm | exact (tf_f (by omega)).symm))
  have c1_123 := c1
  by_cases c1 : c = 125
  · refine s_lookup X 92 dX1_isOwn_1 (by decide) (by omega) (by rw [c1]; try decide) (by decide) ?_
    refine s_iconst X dX1_isOwn_92 ?_
    refine s_iret X Y dX1_isOwn_93 (rfl) ?_
    refine ⟨?_, rfl⟩
    · (first | (exfalso; omega) | (first | exact (tf_t (by omega)).symm | exact (tf_f (by omega)).symm))
  have c1_125 := c1
  refine s_lookup (off := 93) X 94 dX1_isOwn_1 (by decide) (by omega) (by simp [Op.lookupswitch.offset, c1_37, c1_40, c1_41, c1_47, c1_60, c1_62, c1_91, c1_93, c1_123, c1_125, eq_comm]) (by decide) ?_
  refine s_iconst X dX1_isOwn_94 ?_
  refine s_iret X Y dX1_isOwn_95 (rfl) ?_
  refine ⟨?_, rfl⟩
  · (first | (exfalso; omega) | (first | exact (tf_t (by omega)).symm | exact (tf_f (by omega)).symm))
set_option maxRecDepth 100000 in
set_option maxHeartbeats 4000000 in
theorem c_X1_isPlain (l : Launch) (G : GX) (c : Int) (hc : 0 ≤ c ∧ R32 c) : CtI l G yX1_isPlain cX1_isPlain 1 (some .boolean) ({ frames := 1, cells := 0, slots := 0, locals := 20 } : Room) [.int (iI c)] [] (fun (z : Int) (w : va_W) => z = (tf (pl c)) ∧ w = []) := by
  intro sz
  refine met_of (fun wc sz => va_Qi (qI _) (posW G wc sz) (va_A wc sz)) (by decide) [(0, .int (iI c))] rfl (Nat.le_of_ble_eq_true rfl) (fun K hK9 hnm X Y => ?_)
  subst hK9
  replace Y : RI K G (some .boolean) 0 0 _ := Y
  refine s_iload_n X dX1_isPlain_0 rfl 0 rfl ?_
  refine s_sipush 159 X dX1_isPlain_1 (by decide) ?_
  refine s_icmp_gt X 28 dX1_isPlain_4 (by decide) (by omega) (fun c4 => ?_) (fun c4 => ?_)
  · refine s_iconst X dX1_isPlain_28 ?_
    refine s_goto X 33 dX1_isPlain_29 (by decide) ?_
    refine s_iret X Y dX1_isPlain_33 (rfl) ?_
    refine ⟨?_, rfl⟩
    · (first | (exfalso; omega) | (first | exact (tf_t (by omega)).symm | exact (tf_f (by omega)).symm))
  · refine s_iload_n X dX1_isPlain_7 rfl 0 rfl ?_
    refine s_sipush 128 X dX1_isPlain_8 (by decide) ?_
    refine s_icmp_ge X 32 dX1_isPlain_11 (by decide) (by omega) (fun c11 => ?_) (fun c11 => ?_)
    · refine s_iconst X dX1_isPlain_32 ?_
      refine s_iret X Y dX1_isPlain_33 (rfl) ?_
      refine ⟨?_, rfl⟩
      · (first | (exfalso; omega) | (first | exact (tf_t (by omega)).symm | exact (tf_f (by omega)).symm))
    · refine s_iload_n X dX1_isPlain_14 rfl 0 rfl ?_
      refine s_callIS X lk_X1_34 [] [] (wr := []) rfl rfl (by decide) (by decide) (by decide) (c_X1_isWhite (kl K) G c (by omega)) dX1_isPlain_15 rfl rfl (by decide) (by decide) (fun z1 w1 h1 => ?_)
      obtain ⟨rfl, rfl⟩ := h1
      show SW K G 1 0 0 18 [(0, .int (iI c))] [.int (iI (tf (wh c)))] []
      refine s_tf_ne X 32 dX1_isPlain_18 (by decide) (fun c18 => ?_) (fun c18 => ?_)
      · refine s_iconst X dX1_isPlain_32 ?_
        refine s_iret X Y dX1_isPlain_33 (rfl) ?_
        refine ⟨?_, rfl⟩
        · (first | (exfalso; omega) | (first | exact (tf_t (by omega)).symm | exact (tf_f (by omega)).symm))
      · refine s_iload_n X dX1_isPlain_21 rfl 0 rfl ?_
        refine s_callIS X lk_X1_45 [] [] (wr := []) rfl rfl (by decide) (by decide) (by decide) (c_X1_isOwn (kl K) G c (by omega)) dX1_isPlain_22 rfl rfl (by decide) (by decide) (fun z2 w2 h2 => ?_)
        obtain ⟨rfl, rfl⟩ := h2
        show SW K G 1 0 0 25 [(0, .int (iI c))] [.int (iI (tf (ow c)))] []
        refine s_tf_ne X 32 dX1_isPlain_25 (by decide) (fun c25 => ?_) (fun c25 => ?_)
        · refine s_iconst X dX1_isPlain_32 ?_
          refine s_iret X Y dX1_isPlain_33 (rfl) ?_
          refine ⟨?_, rfl⟩
          · (first | (exfalso; omega) | (first | exact (tf_t (by omega)).symm | exact (tf_f (by omega)).symm))
        · refine s_iconst X dX1_isPlain_28 ?_
          refine s_goto X 33 dX1_isPlain_29 (by decide) ?_
          refine s_iret X Y dX1_isPlain_33 (rfl) ?_
          refine ⟨?_, rfl⟩
          · (first | (exfalso; omega) | (first | exact (tf_t (by omega)).symm | exact (tf_f (by omega)).symm))
set_option maxRecDepth 100000 in
set_option maxHeartbeats 4000000 in
theorem c_X1_wordEnd (l : Launch) (G : GX) (b : Nat) (a : Nat) (n : Int) (rd : Int) (e : Int) (B : Nat → Nat) (i0 : Int) (hn : 0 ≤ n ∧ n ≤ 3000) (hBb : ∀ j, B j < 256) (hi : 0 ≤ i0 ∧ i0 ≤ n) : CtI l G yX1_wordEnd cX1_wordEnd 3 (some .int) ({ frames := 2, cells := 0, slots := 0, locals := 42 } : Room) [.ref b, .int (iI i0)] [oBy b a n rd e, aB G a 3000 B] (fun (z : Int) (w : va_W) => z = (we B n i0) ∧ w = [oBy b a n rd e, aB G a 3000 B]) := by
  intro sz
  refine met_of (fun wc sz => va_Qi (qI _) (posW G wc sz) (va_A wc sz)) (by decide) [(0, .ref b), (1, .int (iI i0))] rfl (Nat.le_of_ble_eq_true rfl) (fun K hK9 hnm X Y => ?_)
  subst hK9
  replace Y : RI K G (some .int) 0 0 _ := Y
  refine s_iload_n X dX1_wordEnd_0 rfl 1 rfl ?_
  refine s_istore_n X dX1_wordEnd_1 rfl [(2, .int (iI i0)), (0, .ref b), (1, .int (iI i0))] (by decide) rfl ?_
  have lp : ∀ (m9 : Nat) (i : Int) (h1 : i0 ≤ i ∧ i ≤ n) (h2 : we B n i = we B n i0), (n - i).toNat < m9 → SW K G 3 0 0 2 [(0, .ref b), (2, .int (iI i))] [] [oBy b a n rd e, aB G a 3000 B] := by
    intro m9
    induction m9 with
    | zero => intro i h1 h2 hm9; exact absurd hm9 (Nat.not_lt_zero _)
    | succ m9 ih9 =>
      intro i h1 h2 hm9
      refine s_iload_n X dX1_wordEnd_2 rfl 1 rfl ?_
      refine s_aload_n X dX1_wordEnd_3 rfl 0 rfl ?_
      refine s_get X dX1_wordEnd_4 fl_X1_15 0 rfl rfl ?_
      refine s_icmp_ge X 29 dX1_wordEnd_7 (by decide) (by omega) (fun c7 => ?_) (fun c7 => ?_)
      · refine s_aload_n X dX1_wordEnd_29 rfl 0 rfl ?_
        refine s_get X dX1_wordEnd_30 fl_X1_15 0 rfl rfl ?_
        refine s_iret X Y dX1_wordEnd_33 (rfl) ?_
        refine ⟨?_, rfl⟩
        · (first | (exfalso; omega) | (first | (rw [← h2, we_out (by omega)]) | (rw [← h2, we_s (by omega), if_neg (by assumption)]; done)))
      · refine s_aload_n X dX1_wordEnd_10 rfl 0 rfl ?_
        refine s_iload_n X dX1_wordEnd_11 rfl 1 rfl ?_
        refine s_callIV X lk_X1_30 [0, 1] [] (wr := []) rfl rfl (by decide) (by decide) (by decide) (c_X1_at (kl K) G b a n rd e B i (by assumption) (by assumption) (by omega)) rfl rfl dX1_wordEnd_12 rfl rfl (by decide) (by decide) (fun z1 w1 h1 => ?_)
        obtain ⟨rfl, rfl⟩ := h1
        show SW K G 3 0 0 15 [(0, .ref b), (2, .int (iI i))] [.int (iI (bA B n i))] [oBy b a n rd e, aB G a 3000 B]
        have q2 := bA_C n i (by assumption : ∀ j, B j < 256)
        refine s_callIS X lk_X1_37 [] [0, 1] (wr := [oBy b a n rd e, aB G a 3000 B]) rfl rfl (by decide) (by decide) (by decide) (c_X1_isPlain (kl K) G (bA B n i) (by omega)) dX1_wordEnd_15 rfl rfl (by decide) (by decide) (fun z3 w3 h3 => ?_)
        obtain ⟨rfl, rfl⟩ := h3
        show SW K G 3 0 0 18 [(0, .ref b), (2, .int (iI i))] [.int (iI (tf (pl (bA B n i))))] [oBy b a n rd e, aB G a 3000 B]
        refine s_tf_ne X 23 dX1_wordEnd_18 (by decide) (fun c18 => ?_) (fun c18 => ?_)
        · refine s_iinc (z := i + 1) X dX1_wordEnd_23 1 rfl (by first | rfl | omega) [(2, .int (iI (i + 1))), (0, .ref b)] (by decide) rfl ?_
          refine s_goto X 2 dX1_wordEnd_26 (by decide) ?_
          refine s_locs (lv' := [(0, .ref b), (2, .int (iI (i + 1)))]) [1, 0] rfl ?_
          exact ih9 (i + 1) (by omega) (by rw [← h2, we_s (i := i) (by omega), if_pos (by assumption)]) (by omega)
        · refine s_iload_n X dX1_wordEnd_21 rfl 1 rfl ?_
          refine s_iret X Y dX1_wordEnd_22 (rfl) ?_
          refine ⟨?_, rfl⟩
          · (first | (exfalso; omega) | (first | (rw [← h2, we_out (by omega)]) | (rw [← h2, we_s (by omega), if_neg (by assumption)]; done)))
  refine s_locs (lv' := [(0, .ref b), (2, .int (iI i0))]) [1, 0] rfl ?_
  exact lp _ i0 (by omega) (rfl) (Nat.lt_succ_self _)
set_option maxRecDepth 100000 in
set_option maxHeartbeats 4000000 in
theorem c_X1_firstNotWhite (l : Launch) (G : GX) (b : Nat) (a : Nat) (n : Int) (rd : Int) (e : Int) (B : Nat → Nat) (hn : 0 ≤ n ∧ n ≤ 3000) (hBb : ∀ j, B j < 256) (hi : 0 ≤ rd ∧ rd ≤ n) : CtI l G yX1_firstNotWhite cX1_firstNotWhite 4 (some .int) ({ frames := 2, cells := 0, slots := 0, locals := 42 } : Room) [.ref b] [oBy b a n rd e, aB G a 3000 B] (fun (z : Int) (w : va_W) => z = (fw B n rd 0) ∧ w = [oBy b a n rd e, aB G a 3000 B]) := by
  intro sz
  refine met_of (fun wc sz => va_Qi (qI _) (posW G wc sz) (va_A wc sz)) (by decide) [(0, .ref b)] rfl (Nat.le_of_ble_eq_true rfl) (fun K hK9 hnm X Y => ?_)
  subst hK9
  replace Y : RI K G (some .int) 0 0 _ := Y
  refine s_iconst X dX1_firstNotWhite_0 ?_
  refine s_istore_n X dX1_firstNotWhite_1 rfl [(1, .int (iI 0)), (0, .ref b)] (by decide) rfl ?_
  refine s_aload_n X dX1_firstNotWhite_2 rfl 1 rfl ?_
  refine s_get X dX1_firstNotWhite_3 fl_X1_19 0 rfl rfl ?_
  refine s_istore_n X dX1_firstNotWhite_6 rfl [(2, .int (iI rd)), (1, .int (iI 0)), (0, .ref b)] (by decide) rfl ?_
  have lp : ∀ (m9 : Nat) (i : Int) (c : Int) (h1 : rd ≤ i ∧ i ≤ n ∧ (c = 0 ∨ c = 1)) (h2 : fw B n i c = fw B n rd 0), (n - i).toNat < m9 → SW K G 4 0 0 7 [(0, .ref b), (1, .int (iI c)), (2, .int (iI i))] [] [oBy b a n rd e, aB G a 3000 B] := by
    intro m9
    induction m9 with
    | zero => intro i c h1 h2 hm9; exact absurd hm9 (Nat.not_lt_zero _)
    | succ m9 ih9 =>
      intro i c h1 h2 hm9
      refine s_iload_n X dX1_firstNotWhite_7 rfl 2 rfl ?_
      refine s_aload_n X dX1_firstNotWhite_8 rfl 0 rfl ?_
      refine s_get X dX1_firstNotWhite_9 fl_X1_15 0 rfl rfl ?_
      refine s_icmp_ge X 82 dX1_firstNotWhite_12 (by decide) (by omega) (fun c12 => ?_) (fun c12 => ?_)
      · refine s_aload_n X dX1_firstNotWhite_82 rfl 0 rfl ?_
        refine s_get X dX1_firstNotWhite_83 fl_X1_15 0 rfl rfl ?_
        refine s_iret X Y dX1_firstNotWhite_86 (rfl) ?_
        refine ⟨?_, rfl⟩
        · (first | (exfalso; omega) | (first | (rw [← h2, fw_out (by omega)]) | (rw [← h2, fw_s (by omega), show cmt c (bA B n i) = 0 from by (unfold cmt; (repeat' split) <;> omega), if_pos (by omega)])))
      · refine s_aload_n X dX1_firstNotWhite_15 rfl 0 rfl ?_
        refine s_iload_n X dX1_firstNotWhite_16 rfl 2 rfl ?_
        refine s_callIV X lk_X1_30 [0, 1] [] (wr := []) rfl rfl (by decide) (by decide) (by decide) (c_X1_at (kl K) G b a n rd e B i (by assumption) (by assumption) (by omega)) rfl rfl dX1_firstNotWhite_17 rfl rfl (by decide) (by decide) (fun z1 w1 h1 => ?_)
        obtain ⟨rfl, rfl⟩ := h1
        show SW K G 4 0 0 20 [(0, .ref b), (1, .int (iI c)), (2, .int (iI i))] [.int (iI (bA B n i))] [oBy b a n rd e, aB G a 3000 B]
        have q2 := bA_C n i (by assumption : ∀ j, B j < 256)
        refine s_istore_n X dX1_firstNotWhite_20 rfl [(3, .int (iI (bA B n i))), (0, .ref b), (1, .int (iI c)), (2, .int (iI i))] (by decide) rfl ?_
        refine s_iload_n X dX1_firstNotWhite_21 rfl 2 rfl ?_
        refine s_if_eq X 51 dX1_firstNotWhite_22 (by decide) (by omega) (fun c22 => ?_) (fun c22 => ?_)
        · refine s_iload_n X dX1_firstNotWhite_51 rfl 0 rfl ?_
          refine s_bipush 37 X dX1_firstNotWhite_52 (by decide) ?_
          refine s_icmp_ne X 61 dX1_firstNotWhite_54 (by decide) (by omega) (fun c54 => ?_) (fun c54 => ?_)
          · refine s_iconst X dX1_firstNotWhite_61 ?_
            refine s_istore_n X dX1_firstNotWhite_62 rfl [(1, .int (iI 0)), (3, .int (iI (bA B n i))), (0, .ref b), (2, .int (iI i))] (by decide) rfl ?_
            refine s_iload_n X dX1_firstNotWhite_63 rfl 0 rfl ?_
            refine s_if_ne X 76 dX1_firstNotWhite_64 (by decide) (by omega) (fun c64 => ?_) (fun c64 => ?_)
            · refine s_iinc (z := i + 1) X dX1_firstNotWhite_76 3 rfl (by first | rfl | omega) [(2, .int (iI (i + 1))), (1, .int (iI 0)), (3, .int (iI (bA B n i))), (0, .ref b)] (by decide) rfl ?_
              refine s_goto X 7 dX1_firstNotWhite_79 (by decide) ?_
              refine s_locs (lv' := [(0, .ref b), (1, .int (iI 0)), (2, .int (iI (i + 1)))]) [3, 1, 0] rfl ?_
              exact ih9 (i + 1) 0 (by omega) (by rw [← h2, fw_s (i := i) (by omega), show cmt c (bA B n i) = 0 from by (unfold cmt; (repeat' split) <;> omega), if_neg (by omega)]) (by omega)
            · refine s_iload_n X dX1_firstNotWhite_67 rfl 1 rfl ?_
              refine s_callIS X lk_X1_34 [] [0, 1] (wr := [oBy b a n rd e, aB G a 3000 B]) rfl rfl (by decide) (by decide) (by decide) (c_X1_isWhite (kl K) G (bA B n i) (by omega)) dX1_firstNotWhite_68 rfl rfl (by decide) (by decide) (fun z3 w3 h3 => ?_)
              obtain ⟨rfl, rfl⟩ := h3
              show SW K G 4 0 0 71 [(1, .int (iI 0)), (3, .int (iI (bA B n i))), (0, .ref b), (2, .int (iI i))] [.int (iI (tf (wh (bA B n i))))] [oBy b a n rd e, aB G a 3000 B]
              refine s_tf_ne X 76 dX1_firstNotWhite_71 (by decide) (fun c71 => ?_) (fun c71 => ?_)
              · refine s_iinc (z := i + 1) X dX1_firstNotWhite_76 3 rfl (by first | rfl | omega) [(2, .int (iI (i + 1))), (1, .int (iI 0)), (3, .int (iI (bA B n i))), (0, .ref b)] (by decide) rfl ?_
                refine s_goto X 7 dX1_firstNotWhite_79 (by decide) ?_
                refine s_locs (lv' := [(0, .ref b), (1, .int (iI 0)), (2, .int (iI (i + 1)))]) [3, 1, 0] rfl ?_
                exact ih9 (i + 1) 0 (by omega) (by rw [← h2, fw_s (i := i) (by omega), show cmt c (bA B n i) = 0 from by (unfold cmt; (repeat' split) <;> omega), if_neg (by omega)]) (by omega)
              · refine s_iload_n X dX1_firstNotWhite_74 rfl 3 rfl ?_
                refine s_iret X Y dX1_firstNotWhite_75 (rfl) ?_
                refine ⟨?_, rfl⟩
                · (first | (exfalso; omega) | (first | (rw [← h2, fw_out (by omega)]) | (rw [← h2, fw_s (by omega), show cmt c (bA B n i) = 0 from by (unfold cmt; (repeat' split) <;> omega), if_pos (by omega)])))
          · refine s_iconst X dX1_firstNotWhite_57 ?_
            refine s_goto X 62 dX1_firstNotWhite_58 (by decide) ?_
            refine s_istore_n X dX1_firstNotWhite_62 rfl [(1, .int (iI 1)), (3, .int (iI (bA B n i))), (0, .ref b), (2, .int (iI i))] (by decide) rfl ?_
            refine s_iload_n X dX1_firstNotWhite_63 rfl 0 rfl ?_
            refine s_if_ne X 76 dX1_firstNotWhite_64 (by decide) (by omega) (fun c64 => ?_) (fun c64 => ?_)
            · refine s_iinc (z := i + 1) X dX1_firstNotWhite_76 3 rfl (by first | rfl | omega) [(2, .int (iI (i + 1))), (1, .int (iI 1)), (3, .int (iI (bA B n i))), (0, .ref b)] (by decide) rfl ?_
              refine s_goto X 7 dX1_firstNotWhite_79 (by decide) ?_
              refine s_locs (lv' := [(0, .ref b), (1, .int (iI 1)), (2, .int (iI (i + 1)))]) [3, 1, 0] rfl ?_
              exact ih9 (i + 1) 1 (by omega) (by rw [← h2, fw_s (i := i) (by omega), show cmt c (bA B n i) = 1 from by (unfold cmt; (repeat' split) <;> omega), if_neg (by omega)]) (by omega)
            · refine s_iload_n X dX1_firstNotWhite_67 rfl 1 rfl ?_
              refine s_callIS X lk_X1_34 [] [0, 1] (wr := [oBy b a n rd e, aB G a 3000 B]) rfl rfl (by decide) (by decide) (by decide) (c_X1_isWhite (kl K) G (bA B n i) (by omega)) dX1_firstNotWhite_68 rfl rfl (by decide) (by decide) (fun z4 w4 h4 => ?_)
              obtain ⟨rfl, rfl⟩ := h4
              show SW K G 4 0 0 71 [(1, .int (iI 1)), (3, .int (iI (bA B n i))), (0, .ref b), (2, .int (iI i))] [.int (iI (tf (wh (bA B n i))))] [oBy b a n rd e, aB G a 3000 B]
              refine s_tf_ne X 76 dX1_firstNotWhite_71 (by decide) (fun c71 => ?_) (fun c71 => ?_)
              · refine s_iinc (z := i + 1) X dX1_firstNotWhite_76 3 rfl (by first | rfl | omega) [(2, .int (iI (i + 1))), (1, .int (iI 1)), (3, .int (iI (bA B n i))), (0, .ref b)] (by decide) rfl ?_
                refine s_goto X 7 dX1_firstNotWhite_79 (by decide) ?_
                refine s_locs (lv' := [(0, .ref b), (1, .int (iI 1)), (2, .int (iI (i + 1)))]) [3, 1, 0] rfl ?_
                exact ih9 (i + 1) 1 (by omega) (by rw [← h2, fw_s (i := i) (by omega), show cmt c (bA B n i) = 1 from by (unfold cmt; (repeat' split) <;> omega), if_neg (by omega)]) (by omega)
              · refine s_iload_n X dX1_firstNotWhite_74 rfl 3 rfl ?_
                refine s_iret X Y dX1_firstNotWhite_75 (rfl) ?_
                refine ⟨?_, rfl⟩
                · (first | (exfalso; omega) | (first | (rw [← h2, fw_out (by omega)]) | (rw [← h2, fw_s (by omega), show cmt c (bA B n i) = 0 from by (unfold cmt; (repeat' split) <;> omega), if_pos (by omega)])))
        · refine s_iload_n X dX1_firstNotWhite_25 rfl 0 rfl ?_
          refine s_bipush 10 X dX1_firstNotWhite_26 (by decide) ?_
          refine s_icmp_eq X 47 dX1_firstNotWhite_28 (by decide) (by omega) (fun c28 => ?_) (fun c28 => ?_)
          · refine s_iconst X dX1_firstNotWhite_47 ?_
            refine s_goto X 62 dX1_firstNotWhite_48 (by decide) ?_
            refine s_istore_n X dX1_firstNotWhite_62 rfl [(1, .int (iI 0)), (3, .int (iI (bA B n i))), (0, .ref b), (2, .int (iI i))] (by decide) rfl ?_
            refine s_iload_n X dX1_firstNotWhite_63 rfl 0 rfl ?_
            refine s_if_ne X 76 dX1_firstNotWhite_64 (by decide) (by omega) (fun c64 => ?_) (fun c64 => ?_)
            · refine s_iinc (z := i + 1) X dX1_firstNotWhite_76 3 rfl (by first | rfl | omega) [(2, .int (iI (i + 1))), (1, .int (iI 0)), (3, .int (iI (bA B n i))), (0, .ref b)] (by decide) rfl ?_
              refine s_goto X 7 dX1_firstNotWhite_79 (by decide) ?_
              refine s_locs (lv' := [(0, .ref b), (1, .int (iI 0)), (2, .int (iI (i + 1)))]) [3, 1, 0] rfl ?_
              exact ih9 (i + 1) 0 (by omega) (by rw [← h2, fw_s (i := i) (by omega), show cmt c (bA B n i) = 0 from by (unfold cmt; (repeat' split) <;> omega), if_neg (by omega)]) (by omega)
            · refine s_iload_n X dX1_firstNotWhite_67 rfl 1 rfl ?_
              refine s_callIS X lk_X1_34 [] [0, 1] (wr := [oBy b a n rd e, aB G a 3000 B]) rfl rfl (by decide) (by decide) (by decide) (c_X1_isWhite (kl K) G (bA B n i) (by omega)) dX1_firstNotWhite_68 rfl rfl (by decide) (by decide) (fun z5 w5 h5 => ?_)
              obtain ⟨rfl, rfl⟩ := h5
              show SW K G 4 0 0 71 [(1, .int (iI 0)), (3, .int (iI (bA B n i))), (0, .ref b), (2, .int (iI i))] [.int (iI (tf (wh (bA B n i))))] [oBy b a n rd e, aB G a 3000 B]
              refine s_tf_ne X 76 dX1_firstNotWhite_71 (by decide) (fun c71 => ?_) (fun c71 => ?_)
              · refine s_iinc (z := i + 1) X dX1_firstNotWhite_76 3 rfl (by first | rfl | omega) [(2, .int (iI (i + 1))), (1, .int (iI 0)), (3, .int (iI (bA B n i))), (0, .ref b)] (by decide) rfl ?_
                refine s_goto X 7 dX1_firstNotWhite_79 (by decide) ?_
                refine s_locs (lv' := [(0, .ref b), (1, .int (iI 0)), (2, .int (iI (i + 1)))]) [3, 1, 0] rfl ?_
                exact ih9 (i + 1) 0 (by omega) (by rw [← h2, fw_s (i := i) (by omega), show cmt c (bA B n i) = 0 from by (unfold cmt; (repeat' split) <;> omega), if_neg (by omega)]) (by omega)
              · refine s_iload_n X dX1_firstNotWhite_74 rfl 3 rfl ?_
                refine s_iret X Y dX1_firstNotWhite_75 (rfl) ?_
                refine ⟨?_, rfl⟩
                · (first | (exfalso; omega) | (first | (rw [← h2, fw_out (by omega)]) | (rw [← h2, fw_s (by omega), show cmt c (bA B n i) = 0 from by (unfold cmt; (repeat' split) <;> omega), if_pos (by omega)])))
          · refine s_iload_n X dX1_firstNotWhite_31 rfl 0 rfl ?_
            refine s_bipush 12 X dX1_firstNotWhite_32 (by decide) ?_
            refine s_icmp_eq X 47 dX1_firstNotWhite_34 (by decide) (by omega) (fun c34 => ?_) (fun c34 => ?_)
            · refine s_iconst X dX1_firstNotWhite_47 ?_
              refine s_goto X 62 dX1_firstNotWhite_48 (by decide) ?_
              refine s_istore_n X dX1_firstNotWhite_62 rfl [(1, .int (iI 0)), (3, .int (iI (bA B n i))), (0, .ref b), (2, .int (iI i))] (by decide) rfl ?_
              refine s_iload_n X dX1_firstNotWhite_63 rfl 0 rfl ?_
              refine s_if_ne X 76 dX1_firstNotWhite_64 (by decide) (by omega) (fun c64 => ?_) (fun c64 => ?_)
              · refine s_iinc (z := i + 1) X dX1_firstNotWhite_76 3 rfl (by first | rfl | omega) [(2, .int (iI (i + 1))), (1, .int (iI 0)), (3, .int (iI (bA B n i))), (0, .ref b)] (by decide) rfl ?_
                refine s_goto X 7 dX1_firstNotWhite_79 (by decide) ?_
                refine s_locs (lv' := [(0, .ref b), (1, .int (iI 0)), (2, .int (iI (i + 1)))]) [3, 1, 0] rfl ?_
                exact ih9 (i + 1) 0 (by omega) (by rw [← h2, fw_s (i := i) (by omega), show cmt c (bA B n i) = 0 from by (unfold cmt; (repeat' split) <;> omega), if_neg (by omega)]) (by omega)
              · refine s_iload_n X dX1_firstNotWhite_67 rfl 1 rfl ?_
                refine s_callIS X lk_X1_34 [] [0, 1] (wr := [oBy b a n rd e, aB G a 3000 B]) rfl rfl (by decide) (by decide) (by decide) (c_X1_isWhite (kl K) G (bA B n i) (by omega)) dX1_firstNotWhite_68 rfl rfl (by decide) (by decide) (fun z6 w6 h6 => ?_)
                obtain ⟨rfl, rfl⟩ := h6
                show SW K G 4 0 0 71 [(1, .int (iI 0)), (3, .int (iI (bA B n i))), (0, .ref b), (2, .int (iI i))] [.int (iI (tf (wh (bA B n i))))] [oBy b a n rd e, aB G a 3000 B]
                refine s_tf_ne X 76 dX1_firstNotWhite_71 (by decide) (fun c71 => ?_) (fun c71 => ?_)
                · refine s_iinc (z := i + 1) X dX1_firstNotWhite_76 3 rfl (by first | rfl | omega) [(2, .int (iI (i + 1))), (1, .int (iI 0)), (3, .int (iI (bA B n i))), (0, .ref b)] (by decide) rfl ?_
                  refine s_goto X 7 dX1_firstNotWhite_79 (by decide) ?_
                  refine s_locs (lv' := [(0, .ref b), (1, .int (iI 0)), (2, .int (iI (i + 1)))]) [3, 1, 0] rfl ?_
                  exact ih9 (i + 1) 0 (by omega) (by rw [← h2, fw_s (i := i) (by omega), show cmt c (bA B n i) = 0 from by (unfold cmt; (repeat' split) <;> omega), if_neg (by omega)]) (by omega)
                · refine s_iload_n X dX1_firstNotWhite_74 rfl 3 rfl ?_
                  refine s_iret X Y dX1_firstNotWhite_75 (rfl) ?_
                  refine ⟨?_, rfl⟩
                  · (first | (exfalso; omega) | (first | (rw [← h2, fw_out (by omega)]) | (rw [← h2, fw_s (by omega), show cmt c (bA B n i) = 0 from by (unfold cmt; (repeat' split) <;> omega), if_pos (by omega)])))
            · refine s_iload_n X dX1_firstNotWhite_37 rfl 0 rfl ?_
              refine s_bipush 13 X dX1_firstNotWhite_38 (by decide) ?_
              refine s_icmp_eq X 47 dX1_firstNotWhite_40 (by decide) (by omega) (fun c40 => ?_) (fun c40 => ?_)
              · refine s_iconst X dX1_firstNotWhite_47 ?_
                refine s_goto X 62 dX1_firstNotWhite_48 (by decide) ?_
                refine s_istore_n X dX1_firstNotWhite_62 rfl [(1, .int (iI 0)), (3, .int (iI (bA B n i))), (0, .ref b), (2, .int (iI i))] (by decide) rfl ?_
                refine s_iload_n X dX1_firstNotWhite_63 rfl 0 rfl ?_
                refine s_if_ne X 76 dX1_firstNotWhite_64 (by decide) (by omega) (fun c64 => ?_) (fun c64 => ?_)
                · refine s_iinc (z := i + 1) X dX1_firstNotWhite_76 3 rfl (by first | rfl | omega) [(2, .int (iI (i + 1))), (1, .int (iI 0)), (3, .int (iI (bA B n i))), (0, .ref b)] (by decide) rfl ?_
                  refine s_goto X 7 dX1_firstNotWhite_79 (by decide) ?_
                  refine s_locs (lv' := [(0, .ref b), (1, .int (iI 0)), (2, .int (iI (i + 1)))]) [3, 1, 0] rfl ?_
                  exact ih9 (i + 1) 0 (by omega) (by rw [← h2, fw_s (i := i) (by omega), show cmt c (bA B n i) = 0 from by (unfold cmt; (repeat' split) <;> omega), if_neg (by omega)]) (by omega)
                · refine s_iload_n X dX1_firstNotWhite_67 rfl 1 rfl ?_
                  refine s_callIS X lk_X1_34 [] [0, 1] (wr := [oBy b a n rd e, aB G a 3000 B]) rfl rfl (by decide) (by decide) (by decide) (c_X1_isWhite (kl K) G (bA B n i) (by omega)) dX1_firstNotWhite_68 rfl rfl (by decide) (by decide) (fun z7 w7 h7 => ?_)
                  obtain ⟨rfl, rfl⟩ := h7
                  show SW K G 4 0 0 71 [(1, .int (iI 0)), (3, .int (iI (bA B n i))), (0, .ref b), (2, .int (iI i))] [.int (iI (tf (wh (bA B n i))))] [oBy b a n rd e, aB G a 3000 B]
                  refine s_tf_ne X 76 dX1_firstNotWhite_71 (by decide) (fun c71 => ?_) (fun c71 => ?_)
                  · refine s_iinc (z := i + 1) X dX1_firstNotWhite_76 3 rfl (by first | rfl | omega) [(2, .int (iI (i + 1))), (1, .int (iI 0)), (3, .int (iI (bA B n i))), (0, .ref b)] (by decide) rfl ?_
                    refine s_goto X 7 dX1_firstNotWhite_79 (by decide) ?_
                    refine s_locs (lv' := [(0, .ref b), (1, .int (iI 0)), (2, .int (iI (i + 1)))]) [3, 1, 0] rfl ?_
                    exact ih9 (i + 1) 0 (by omega) (by rw [← h2, fw_s (i := i) (by omega), show cmt c (bA B n i) = 0 from by (unfold cmt; (repeat' split) <;> omega), if_neg (by omega)]) (by omega)
                  · refine s_iload_n X dX1_firstNotWhite_74 rfl 3 rfl ?_
                    refine s_iret X Y dX1_firstNotWhite_75 (rfl) ?_
                    refine ⟨?_, rfl⟩
                    · (first | (exfalso; omega) | (first | (rw [← h2, fw_out (by omega)]) | (rw [← h2, fw_s (by omega), show cmt c (bA B n i) = 0 from by (unfold cmt; (repeat' split) <;> omega), if_pos (by omega)])))
              · refine s_iconst X dX1_firstNotWhite_43 ?_
                refine s_goto X 62 dX1_firstNotWhite_44 (by decide) ?_
                refine s_istore_n X dX1_firstNotWhite_62 rfl [(1, .int (iI 1)), (3, .int (iI (bA B n i))), (0, .ref b), (2, .int (iI i))] (by decide) rfl ?_
                refine s_iload_n X dX1_firstNotWhite_63 rfl 0 rfl ?_
                refine s_if_ne X 76 dX1_firstNotWhite_64 (by decide) (by omega) (fun c64 => ?_) (fun c64 => ?_)
                · refine s_iinc (z := i + 1) X dX1_firstNotWhite_76 3 rfl (by first | rfl | omega) [(2, .int (iI (i + 1))), (1, .int (iI 1)), (3, .int (iI (bA B n i))), (0, .ref b)] (by decide) rfl ?_
                  refine s_goto X 7 dX1_firstNotWhite_79 (by decide) ?_
                  refine s_locs (lv' := [(0, .ref b), (1, .int (iI 1)), (2, .int (iI (i + 1)))]) [3, 1, 0] rfl ?_
                  exact ih9 (i + 1) 1 (by omega) (by rw [← h2, fw_s (i := i) (by omega), show cmt c (bA B n i) = 1 from by (unfold cmt; (repeat' split) <;> omega), if_neg (by omega)]) (by omega)
                · refine s_iload_n X dX1_firstNotWhite_67 rfl 1 rfl ?_
                  refine s_callIS X lk_X1_34 [] [0, 1] (wr := [oBy b a n rd e, aB G a 3000 B]) rfl rfl (by decide) (by decide) (by decide) (c_X1_isWhite (kl K) G (bA B n i) (by omega)) dX1_firstNotWhite_68 rfl rfl (by decide) (by decide) (fun z8 w8 h8 => ?_)
                  obtain ⟨rfl, rfl⟩ := h8
                  show SW K G 4 0 0 71 [(1, .int (iI 1)), (3, .int (iI (bA B n i))), (0, .ref b), (2, .int (iI i))] [.int (iI (tf (wh (bA B n i))))] [oBy b a n rd e, aB G a 3000 B]
                  refine s_tf_ne X 76 dX1_firstNotWhite_71 (by decide) (fun c71 => ?_) (fun c71 => ?_)
                  · refine s_iinc (z := i + 1) X dX1_firstNotWhite_76 3 rfl (by first | rfl | omega) [(2, .int (iI (i + 1))), (1, .int (iI 1)), (3, .int (iI (bA B n i))), (0, .ref b)] (by decide) rfl ?_
                    refine s_goto X 7 dX1_firstNotWhite_79 (by decide) ?_
                    refine s_locs (lv' := [(0, .ref b), (1, .int (iI 1)), (2, .int (iI (i + 1)))]) [3, 1, 0] rfl ?_
                    exact ih9 (i + 1) 1 (by omega) (by rw [← h2, fw_s (i := i) (by omega), show cmt c (bA B n i) = 1 from by (unfold cmt; (repeat' split) <;> omega), if_neg (by omega)]) (by omega)
                  · refine s_iload_n X dX1_firstNotWhite_74 rfl 3 rfl ?_
                    refine s_iret X Y dX1_firstNotWhite_75 (rfl) ?_
                    refine ⟨?_, rfl⟩
                    · (first | (exfalso; omega) | (first | (rw [← h2, fw_out (by omega)]) | (rw [← h2, fw_s (by omega), show cmt c (bA B n i) = 0 from by (unfold cmt; (repeat' split) <;> omega), if_pos (by omega)])))
  refine s_locs (lv' := [(0, .ref b), (1, .int (iI 0)), (2, .int (iI rd))]) [2, 1, 0] rfl ?_
  exact lp _ rd 0 (by omega) (rfl) (Nat.lt_succ_self _)
set_option maxRecDepth 100000 in
set_option maxHeartbeats 4000000 in
theorem c_X1_lacking (l : Launch) (G : GX) (b : Nat) (a : Nat) (n : Int) (rd : Int) (e : Int) (k : Nat) (x : Nat) (i8 : Nat) (d8 : Nat) (pl : Int) (af : Int) (wh : Int) (len : Int) (ror : Int) (rl : Int) (re : UInt64) (he : R32 e) : CtI l G yX1_lacking cX1_lacking 2 (some .int) ({ frames := 0, cells := 0, slots := 0, locals := 0 } : Room) [.ref b, .ref k] [oBy b a n rd e, oTk k pl af wh re x len i8 d8 ror rl] (fun (z : Int) (w : va_W) => z = (if e = 0 then 0 else -7) ∧ w = [oBy b a n rd e, oTk k pl (if e = 0 then af else n) wh re x len i8 d8 ror rl]) := by
  intro sz
  refine met_of (fun wc sz => va_Qi (qI _) (posW G wc sz) (va_A wc sz)) (by decide) [(0, .ref b), (1, .ref k)] rfl (Nat.le_of_ble_eq_true rfl) (fun K hK9 hnm X Y => ?_)
  subst hK9
  replace Y : RI K G (some .int) 0 0 _ := Y
  refine s_aload_n X dX1_lacking_0 rfl 0 rfl ?_
  refine s_get X dX1_lacking_1 fl_X1_22 0 rfl rfl ?_
  refine s_if_ne X 9 dX1_lacking_4 (by decide) (by omega) (fun c4 => ?_) (fun c4 => ?_)
  · refine s_aload_n X dX1_lacking_9 rfl 1 rfl ?_
    refine s_aload_n X dX1_lacking_10 rfl 0 rfl ?_
    refine s_get X dX1_lacking_11 fl_X1_15 0 rfl rfl ?_
    refine s_put X dX1_lacking_14 fl_X1_40 tyX3_ok nmX3 1 rfl rfl (rfl) (rfl) (Nat.le_of_ble_eq_true rfl) [oBy b a n rd e, oTk k pl n wh re x len i8 d8 ror rl] rfl ?_
    refine s_bipush (-7) X dX1_lacking_17 (by decide) ?_
    refine s_iret X Y dX1_lacking_19 (rfl) ?_
    refine ⟨?_, ?_⟩
    · (first | (exfalso; omega) | (first | rfl | omega | simp [*]))
    · (first | (exfalso; omega) | (simp [*]))
  · refine s_iconst X dX1_lacking_7 ?_
    refine s_iret X Y dX1_lacking_8 (rfl) ?_
    refine ⟨?_, ?_⟩
    · (first | (exfalso; omega) | (first | rfl | omega | simp [*]))
    · (first | (exfalso; omega) | (simp [*]))
set_option maxRecDepth 100000 in
set_option maxHeartbeats 4000000 in
theorem c_X1_append (l : Launch) (G : GX) (b : Nat) (a : Nat) (n : Int) (rd : Int) (e : Int) (B : Nat → Nat) (v : Int) (hn : 0 ≤ n ∧ n ≤ 3000) : CtI l G yX1_append cX1_append 2 (some .boolean) ({ frames := 0, cells := 0, slots := 0, locals := 0 } : Room) [.ref b, .int (iI v)] [oBy b a n rd e, aB G a 3000 B] (fun (z : Int) (w : va_W) => z = (tf (n < 3000)) ∧ w = [oBy b a (if n < 3000 then n + 1 else n) rd e, aB G a 3000 (if n < 3000 then uB B n.toNat (by8 v) else B)]) := by
  intro sz
  refine met_of (fun wc sz => va_Qi (qI _) (posW G wc sz) (va_A wc sz)) (by decide) [(0, .ref b), (1, .int (iI v))] rfl (Nat.le_of_ble_eq_true rfl) (fun K hK9 hnm X Y => ?_)
  subst hK9
  replace Y : RI K G (some .boolean) 0 0 _ := Y
  refine s_aload_n X dX1_append_0 rfl 0 rfl ?_
  refine s_get X dX1_append_1 fl_X1_15 0 rfl rfl ?_
  refine s_aload_n X dX1_append_4 rfl 0 rfl ?_
  refine s_get X dX1_append_5 fl_X1_9 0 rfl rfl ?_
  refine s_alen (z := 3000) X dX1_append_8 1 0 rfl rfl rfl ?_
  refine s_icmp_lt X 14 dX1_append_9 (by decide) (by omega) (fun c9 => ?_) (fun c9 => ?_)
  · refine s_aload_n X dX1_append_14 rfl 0 rfl ?_
    refine s_get X dX1_append_15 fl_X1_9 0 rfl rfl ?_
    refine s_aload_n X dX1_append_18 rfl 0 rfl ?_
    refine s_get X dX1_append_19 fl_X1_15 0 rfl rfl ?_
    refine s_iload_n X dX1_append_22 rfl 1 rfl ?_
    refine s_bastI X dX1_append_23 1 rfl (by omega) [oBy b a n rd e, aB G a 3000 (uB B n.toNat (by8 v))] rfl ?_
    refine s_aload_n X dX1_append_24 rfl 0 rfl ?_
    refine s_dup X dX1_append_25 rfl ?_
    refine s_get X dX1_append_26 fl_X1_15 0 rfl rfl ?_
    refine s_iconst X dX1_append_29 ?_
    refine s_iadd X dX1_append_30 ?_
    refine s_put X dX1_append_31 fl_X1_15 tyX1_ok nmX1 0 rfl rfl (rfl) (rfl) (Nat.le_of_ble_eq_true rfl) [oBy b a (n + 1) rd e, aB G a 3000 (uB B n.toNat (by8 v))] rfl ?_
    refine s_iconst X dX1_append_34 ?_
    refine s_iret X Y dX1_append_35 (rfl) ?_
    refine ⟨?_, ?_⟩
    · (first | (exfalso; omega) | (first | exact (tf_t (by omega)).symm | exact (tf_f (by omega)).symm))
    · (first | (exfalso; omega) | (simp [show n < 3000 from by omega]) | (simp [show ¬ n < 3000 from by omega]))
  · refine s_iconst X dX1_append_12 ?_
    refine s_iret X Y dX1_append_13 (rfl) ?_
    refine ⟨?_, ?_⟩
    · (first | (exfalso; omega) | (first | exact (tf_t (by omega)).symm | exact (tf_f (by omega)).symm))
    · (first | (exfalso; omega) | (simp [show n < 3000 from by omega]) | (simp [show ¬ n < 3000 from by omega]))
set_option maxRecDepth 100000 in
set_option maxHeartbeats 4000000 in
theorem c_X1_forget (l : Launch) (G : GX) (b : Nat) (a : Nat) (n : Int) (rd : Int) (e : Int)  : CtV l G yX1_forget cX1_forget 1 none ({ frames := 0, cells := 0, slots := 0, locals := 0 } : Room) [.ref b] [oBy b a n rd e] (fun (w : va_W) => w = [oBy b a 0 0 0]) := by
  intro sz
  refine met_of (fun wc sz => va_Qv _ (posW G wc sz) (va_A wc sz)) (by decide) [(0, .ref b)] rfl (Nat.le_of_ble_eq_true rfl) (fun K hK9 hnm X Y => ?_)
  subst hK9
  replace Y : RV K G none 0 0 _ := Y
  refine s_aload_n X dX1_forget_0 rfl 0 rfl ?_
  refine s_iconst X dX1_forget_1 ?_
  refine s_put X dX1_forget_2 fl_X1_15 tyX1_ok nmX1 0 rfl rfl (rfl) (rfl) (Nat.le_of_ble_eq_true rfl) [oBy b a 0 rd e] rfl ?_
  refine s_aload_n X dX1_forget_5 rfl 0 rfl ?_
  refine s_iconst X dX1_forget_6 ?_
  refine s_put X dX1_forget_7 fl_X1_19 tyX1_ok nmX1 0 rfl rfl (rfl) (rfl) (Nat.le_of_ble_eq_true rfl) [oBy b a 0 0 e] rfl ?_
  refine s_aload_n X dX1_forget_10 rfl 0 rfl ?_
  refine s_iconst X dX1_forget_11 ?_
  refine s_put X dX1_forget_12 fl_X1_22 tyX1_ok nmX1 0 rfl rfl (rfl) (rfl) (Nat.le_of_ble_eq_true rfl) [oBy b a 0 0 0] rfl ?_
  refine s_vret X Y dX1_forget_15 ?_
  exact rfl
end
section
/-! tokens and words, as functions of an accessor w : Int → Int (a byte, or -1 outside) -/
def putT (t : Nat → Nat) (len v : Int) : Nat → Nat := if len < 401 then uB t len.toNat (by8 v) else t
def putL (len : Int) : Int := if len < 401 then len + 1 else len
theorem putL_R {len : Int} (h : 0 ≤ len ∧ len ≤ 401) : 0 ≤ putL len ∧ putL len ≤ 401 ∧ len ≤ putL len := by unfold putL; split <;> omega
theorem putT_lt {t : Nat → Nat} {len v : Int} (h : ∀ j, t j < 256) : ∀ j, putT t len v j < 256 := by
  intro j; unfold putT uB; split
  · by_cases c : j = len.toNat
    · simp [c, by8_lt]
    · simp [c, h j]
  · exact h j
def dg (c : Int) : Int := if 48 ≤ c ∧ c ≤ 57 then c - 48 else if 97 ≤ c ∧ c ≤ 122 then c - 87 else if 65 ≤ c ∧ c ≤ 90 then c - 55 else 36
theorem dg_R (c : Int) : 0 ≤ dg c ∧ dg c ≤ 36 := by unfold dg; (repeat' split) <;> omega
def mulN (s b : UInt64) : Nat → UInt64
  | 0 => s
  | k + 1 => FP.dmul (mulN s b k) b
def divN (s b : UInt64) : Nat → UInt64
  | 0 => s
  | k + 1 => FP.ddiv (divN s b k) b
def scl (s b : UInt64) (t : Int) : UInt64 := divN (mulN s b t.toNat) b (-t).toNat
/-- the place behind a sign -/
def bs (w : Int → Int) (i : Int) : Int := if w i = 43 ∨ w i = 45 then i + 1 else i
theorem bs_R (w : Int → Int) (i : Int) : i ≤ bs w i ∧ bs w i ≤ i + 1 := by unfold bs; split <;> omega
/-- the first place from i on whose byte is no digit of the base; len if none -/
def deF (w : Int → Int) (len base : Int) : Nat → Int → Int
  | 0, _ => len
  | k + 1, i => if base ≤ dg (w i) then i else deF w len base k (i + 1)
def de (w : Int → Int) (len base i : Int) : Int := deF w len base (len - i).toNat i
theorem de_out {w : Int → Int} {len base i : Int} (h : len ≤ i) : de w len base i = len := by
  unfold de; rw [show (len - i).toNat = 0 by omega]; rfl
theorem de_s {w : Int → Int} {len base i : Int} (h : i < len) : de w len base i = if base ≤ dg (w i) then i else de w len base (i + 1) := by
  unfold de
  obtain ⟨k, hk⟩ : ∃ k, (len - i).toNat = k + 1 := ⟨(len - i).toNat - 1, by omega⟩
  rw [hk, show (len - (i + 1)).toNat = k by omega]; rfl
theorem de_R {w : Int → Int} {len base : Int} : ∀ (k : Nat) (i : Int), (len - i).toNat = k → i ≤ len → i ≤ de w len base i ∧ de w len base i ≤ len
  | 0, i, hk, h => by rw [de_out (by omega)]; omega
  | k + 1, i, hk, h => by
    rw [de_s (by omega)]
    split
    · omega
    · have := de_R (w := w) (len := len) (base := base) k (i + 1) (by omega) (by omega); omega
/-- the number of the digits from i up to e, stopped at 4294967296 -/
def sat (a : Int) : Int := if 4294967296 < a then 4294967296 else a
def voF (w : Int → Int) (base : Int) : Nat → Int → Int → Int
  | 0, _, v => v
  | k + 1, i, v => voF w base k (i + 1) (sat (v * base + dg (w i)))
def vo (w : Int → Int) (base i e v : Int) : Int := voF w base (e - i).toNat i v
theorem vo_out {w : Int → Int} {base i e v : Int} (h : e ≤ i) : vo w base i e v = v := by
  unfold vo; rw [show (e - i).toNat = 0 by omega]; rfl
theorem vo_s {w : Int → Int} {base i e v : Int} (h : i < e) : vo w base i e v = vo w base (i + 1) e (sat (v * base + dg (w i))) := by
  unfold vo
  obtain ⟨k, hk⟩ : ∃ k, (e - i).toNat = k + 1 := ⟨(e - i).toNat - 1, by omega⟩
  rw [hk, show (e - (i + 1)).toNat = k by omega]; rfl
theorem sat_R {a : Int} (h : 0 ≤ a) : 0 ≤ sat a ∧ sat a ≤ 4294967296 := by unfold sat; split <;> omega
theorem vo_R {w : Int → Int} {base e : Int} (hb : 0 ≤ base) : ∀ (k : Nat) (i v : Int), (e - i).toNat = k → (0 ≤ v ∧ v ≤ 4294967296) → 0 ≤ vo w base i e v ∧ vo w base i e v ≤ 4294967296
  | 0, i, v, hk, h => by rw [vo_out (by omega)]; omega
  | k + 1, i, v, hk, h => by
    rw [vo_s (by omega)]
    have h1 : 0 ≤ v * base := Int.mul_nonneg h.1 hb
    have h2 := dg_R (w i)
    exact vo_R hb k (i + 1) _ (by omega) (sat_R (by omega))
/-- the digits from i up to e as a double, points passed -/
def drF (w : Int → Int) : Nat → Int → UInt64 → UInt64
  | 0, _, v => v
  | k + 1, i, v => drF w k (i + 1) (if w i = 46 then v else FP.dadd (FP.dmul v 4621819117588971520) (FP.i2d (iI (dg (w i)))))
def dr (w : Int → Int) (i e : Int) (v : UInt64) : UInt64 := drF w (e - i).toNat i v
theorem dr_out {w : Int → Int} {i e : Int} {v : UInt64} (h : e ≤ i) : dr w i e v = v := by
  unfold dr; rw [show (e - i).toNat = 0 by omega]; rfl
theorem dr_s {w : Int → Int} {i e : Int} {v : UInt64} (h : i < e) : dr w i e v = dr w (i + 1) e (if w i = 46 then v else FP.dadd (FP.dmul v 4621819117588971520) (FP.i2d (iI (dg (w i))))) := by
  unfold dr
  obtain ⟨k, hk⟩ : ∃ k, (e - i).toNat = k + 1 := ⟨(e - i).toNat - 1, by omega⟩
  rw [hk, show (e - (i + 1)).toNat = k by omega]; rfl
end
section
set_option maxRecDepth 100000 in
set_option maxHeartbeats 4000000 in
theorem c_X3_startAt (l : Launch) (G : GX) (k : Nat) (x : Nat) (i8 : Nat) (d8 : Nat) (pl : Int) (af : Int) (wh : Int) (len : Int) (ror : Int) (rl : Int) (re : UInt64) (s0 : Int)  : CtV l G yX3_startAt cX3_startAt 2 none ({ frames := 0, cells := 0, slots := 0, locals := 0 } : Room) [.ref k, .int (iI s0)] [oTk k pl af wh re x len i8 d8 ror rl] (fun (w : va_W) => w = [oTk k s0 (s0 + 1) 0 FP.dconst0 x 0 i8 d8 ror 0]) := by
  intro sz
  refine met_of (fun wc sz => va_Qv _ (posW G wc sz) (va_A wc sz)) (by decide) [(0, .ref k), (1, .int (iI s0))] rfl (Nat.le_of_ble_eq_true rfl) (fun K hK9 hnm X Y => ?_)
  subst hK9
  replace Y : RV K G none 0 0 _ := Y
  refine s_aload_n X dX3_startAt_0 rfl 0 rfl ?_
  refine s_iload_n X dX3_startAt_1 rfl 1 rfl ?_
  refine s_put X dX3_startAt_2 fl_X3_23 tyX3_ok nmX3 0 rfl rfl (rfl) (rfl) (Nat.le_of_ble_eq_true rfl) [oTk k s0 af wh re x len i8 d8 ror rl] rfl ?_
  refine s_aload_n X dX3_startAt_5 rfl 0 rfl ?_
  refine s_iload_n X dX3_startAt_6 rfl 1 rfl ?_
  refine s_iconst X dX3_startAt_7 ?_
  refine s_iadd X dX3_startAt_8 ?_
  refine s_put X dX3_startAt_9 fl_X3_27 tyX3_ok nmX3 0 rfl rfl (rfl) (rfl) (Nat.le_of_ble_eq_true rfl) [oTk k s0 (s0 + 1) wh re x len i8 d8 ror rl] rfl ?_
  refine s_aload_n X dX3_startAt_12 rfl 0 rfl ?_
  refine s_lconst0 X dX3_startAt_13 ?_
  refine s_put X dX3_startAt_14 fl_X3_30 tyX3_ok nmX3 0 rfl rfl (rfl) (rfl) (Nat.le_of_ble_eq_true rfl) [oTk k s0 (s0 + 1) 0 re x len i8 d8 ror rl] rfl ?_
  refine s_aload_n X dX3_startAt_17 rfl 0 rfl ?_
  refine s_dconst0 X dX3_startAt_18 ?_
  refine s_put X dX3_startAt_19 fl_X3_34 tyX3_ok nmX3 0 rfl rfl (rfl) (rfl) (Nat.le_of_ble_eq_true rfl) [oTk k s0 (s0 + 1) 0 FP.dconst0 x len i8 d8 ror rl] rfl ?_
  refine s_aload_n X dX3_startAt_22 rfl 0 rfl ?_
  refine s_iconst X dX3_startAt_23 ?_
  refine s_put X dX3_startAt_24 fl_X3_38 tyX3_ok nmX3 0 rfl rfl (rfl) (rfl) (Nat.le_of_ble_eq_true rfl) [oTk k s0 (s0 + 1) 0 FP.dconst0 x 0 i8 d8 ror rl] rfl ?_
  refine s_aload_n X dX3_startAt_27 rfl 0 rfl ?_
  refine s_iconst X dX3_startAt_28 ?_
  refine s_put X dX3_startAt_29 fl_X3_41 tyX3_ok nmX3 0 rfl rfl (rfl) (rfl) (Nat.le_of_ble_eq_true rfl) [oTk k s0 (s0 + 1) 0 FP.dconst0 x 0 i8 d8 ror 0] rfl ?_
  refine s_vret X Y dX3_startAt_32 ?_
  exact rfl
set_option maxRecDepth 100000 in
set_option maxHeartbeats 4000000 in
theorem c_X3_put (l : Launch) (G : GX) (k : Nat) (x : Nat) (i8 : Nat) (d8 : Nat) (pl : Int) (af : Int) (wh : Int) (len : Int) (ror : Int) (rl : Int) (re : UInt64) (t : Nat → Nat) (v : Int) (hlen : 0 ≤ len ∧ len ≤ 401) : CtV l G yX3_put cX3_put 2 none ({ frames := 0, cells := 0, slots := 0, locals := 0 } : Room) [.ref k, .int (iI v)] [oTk k pl af wh re x len i8 d8 ror rl, aB G x 401 t] (fun (w : va_W) => w = [oTk k pl af wh re x (putL len) i8 d8 ror rl, aB G x 401 (putT t len v)]) := by
  intro sz
  refine met_of (fun wc sz => va_Qv _ (posW G wc sz) (va_A wc sz)) (by decide) [(0, .ref k), (1, .int (iI v))] rfl (Nat.le_of_ble_eq_true rfl) (fun K hK9 hnm X Y => ?_)
  subst hK9
  replace Y : RV K G none 0 0 _ := Y
  refine s_aload_n X dX3_put_0 rfl 0 rfl ?_
  refine s_get X dX3_put_1 fl_X3_38 0 rfl rfl ?_
  refine s_aload_n X dX3_put_4 rfl 0 rfl ?_
  refine s_get X dX3_put_5 fl_X3_9 0 rfl rfl ?_
  refine s_alen (z := 401) X dX3_put_8 1 0 rfl rfl rfl ?_
  refine s_icmp_ge X 33 dX3_put_9 (by decide) (by omega) (fun c9 => ?_) (fun c9 => ?_)
  · refine s_vret X Y dX3_put_33 ?_
    · (first | (exfalso; omega) | (simp [putL, putT, show len < 401 from by omega]) | (simp [putL, putT, show ¬ len < 401 from by omega]))
  · refine s_aload_n X dX3_put_12 rfl 0 rfl ?_
    refine s_get X dX3_put_13 fl_X3_9 0 rfl rfl ?_
    refine s_aload_n X dX3_put_16 rfl 0 rfl ?_
    refine s_get X dX3_put_17 fl_X3_38 0 rfl rfl ?_
    refine s_iload_n X dX3_put_20 rfl 1 rfl ?_
    refine s_i2b X dX3_put_21 ?_
    refine s_bast X dX3_put_22 1 rfl (by omega) [oTk k pl af wh re x len i8 d8 ror rl, aB G x 401 (uB t len.toNat (by8 v))] rfl ?_
    refine s_aload_n X dX3_put_23 rfl 0 rfl ?_
    refine s_dup X dX3_put_24 rfl ?_
    refine s_get X dX3_put_25 fl_X3_38 0 rfl rfl ?_
    refine s_iconst X dX3_put_28 ?_
    refine s_iadd X dX3_put_29 ?_
    refine s_put X dX3_put_30 fl_X3_38 tyX3_ok nmX3 0 rfl rfl (rfl) (rfl) (Nat.le_of_ble_eq_true rfl) [oTk k pl af wh re x (len + 1) i8 d8 ror rl, aB G x 401 (uB t len.toNat (by8 v))] rfl ?_
    refine s_vret X Y dX3_put_33 ?_
    · (first | (exfalso; omega) | (simp [putL, putT, show len < 401 from by omega]) | (simp [putL, putT, show ¬ len < 401 from by omega]))
set_option maxRecDepth 100000 in
set_option maxHeartbeats 4000000 in
theorem c_X3_textAt (l : Launch) (G : GX) (k : Nat) (x : Nat) (i8 : Nat) (d8 : Nat) (pl : Int) (af : Int) (wh : Int) (len : Int) (ror : Int) (rl : Int) (re : UInt64) (t : Nat → Nat) (i : Int) (hlen : 0 ≤ len ∧ len ≤ 401) (htb : ∀ j, t j < 256) (hi : R32 i) : CtI l G yX3_textAt cX3_textAt 2 (some .int) ({ frames := 0, cells := 0, slots := 0, locals := 0 } : Room) [.ref k, .int (iI i)] [oTk k pl af wh re x len i8 d8 ror rl, aB G x 401 t] (fun (z : Int) (w : va_W) => z = (bA t len i) ∧ w = [oTk k pl af wh re x len i8 d8 ror rl, aB G x 401 t]) := by
  intro sz
  refine met_of (fun wc sz => va_Qi (qI _) (posW G wc sz) (va_A wc sz)) (by decide) [(0, .ref k), (1, .int (iI i))] rfl (Nat.le_of_ble_eq_true rfl) (fun K hK9 hnm X Y => ?_)
  subst hK9
  replace Y : RI K G (some .int) 0 0 _ := Y
  refine s_iload_n X dX3_textAt_0 rfl 1 rfl ?_
  refine s_if_lt X 25 dX3_textAt_1 (by decide) (by omega) (fun c1 => ?_) (fun c1 => ?_)
  · refine s_iconst X dX3_textAt_25 ?_
    refine s_iret X Y dX3_textAt_26 (rfl) ?_
    refine ⟨?_, rfl⟩
    · (first | (exfalso; omega) | (first | exact (bA_in ⟨by omega, by omega⟩).symm | exact (bA_out (by omega)).symm))
  · refine s_iload_n X dX3_textAt_4 rfl 1 rfl ?_
    refine s_aload_n X dX3_textAt_5 rfl 0 rfl ?_
    refine s_get X dX3_textAt_6 fl_X3_38 0 rfl rfl ?_
    refine s_icmp_ge X 25 dX3_textAt_9 (by decide) (by omega) (fun c9 => ?_) (fun c9 => ?_)
    · refine s_iconst X dX3_textAt_25 ?_
      refine s_iret X Y dX3_textAt_26 (rfl) ?_
      refine ⟨?_, rfl⟩
      · (first | (exfalso; omega) | (first | exact (bA_in ⟨by omega, by omega⟩).symm | exact (bA_out (by omega)).symm))
    · refine s_aload_n X dX3_textAt_12 rfl 0 rfl ?_
      refine s_get X dX3_textAt_13 fl_X3_9 0 rfl rfl ?_
      refine s_iload_n X dX3_textAt_16 rfl 1 rfl ?_
      refine s_bald X dX3_textAt_17 1 rfl (by omega) ?_
      refine s_sipush 255 X dX3_textAt_18 (by decide) ?_
      refine s_iand (z := (((t i.toNat) : Nat) : Int)) X dX3_textAt_21 (sb_and9 (htb _)) ?_
      refine s_goto X 26 dX3_textAt_22 (by decide) ?_
      refine s_iret X Y dX3_textAt_26 (rfl) ?_
      refine ⟨?_, rfl⟩
      · (first | (exfalso; omega) | (first | exact (bA_in ⟨by omega, by omega⟩).symm | exact (bA_out (by omega)).symm))
set_option maxRecDepth 100000 in
set_option maxHeartbeats 4000000 in
theorem c_X3_asText (l : Launch) (G : GX) (k : Nat) (x : Nat) (i8 : Nat) (d8 : Nat) (pl : Int) (af : Int) (wh : Int) (len : Int) (ror : Int) (rl : Int) (re : UInt64) (kd : Int) (most : Int) (hlen : 0 ≤ len ∧ len ≤ 401) (hm : R32 most) : CtI l G yX3_asText cX3_asText 3 (some .int) ({ frames := 0, cells := 0, slots := 0, locals := 0 } : Room) [.ref k, .int (iI kd), .int (iI most)] [oTk k pl af wh re x len i8 d8 ror rl] (fun (z : Int) (w : va_W) => z = (if most < len then -2 else kd) ∧ w = [oTk k pl af (if most < len then wh else len) re x len i8 d8 ror rl]) := by
  intro sz
  refine met_of (fun wc sz => va_Qi (qI _) (posW G wc sz) (va_A wc sz)) (by decide) [(0, .ref k), (1, .int (iI kd)), (2, .int (iI most))] rfl (Nat.le_of_ble_eq_true rfl) (fun K hK9 hnm X Y => ?_)
  subst hK9
  replace Y : RI K G (some .int) 0 0 _ := Y
  refine s_aload_n X dX3_asText_0 rfl 0 rfl ?_
  refine s_get X dX3_asText_1 fl_X3_38 0 rfl rfl ?_
  refine s_iload_n X dX3_asText_4 rfl 2 rfl ?_
  refine s_icmp_le X 11 dX3_asText_5 (by decide) (by omega) (fun c5 => ?_) (fun c5 => ?_)
  · refine s_aload_n X dX3_asText_11 rfl 0 rfl ?_
    refine s_aload_n X dX3_asText_12 rfl 0 rfl ?_
    refine s_get X dX3_asText_13 fl_X3_38 0 rfl rfl ?_
    refine s_i2l X dX3_asText_16 (by omega) ?_
    refine s_put X dX3_asText_17 fl_X3_30 tyX3_ok nmX3 0 rfl rfl (rfl) (rfl) (Nat.le_of_ble_eq_true rfl) [oTk k pl af len re x len i8 d8 ror rl] rfl ?_
    refine s_iload_n X dX3_asText_20 rfl 1 rfl ?_
    refine s_iret X Y dX3_asText_21 (rfl) ?_
    refine ⟨?_, ?_⟩
    · (first | (exfalso; omega) | (simp [show most < len from by omega]) | (simp [show ¬ most < len from by omega]))
    · (first | (exfalso; omega) | (simp [show most < len from by omega]) | (simp [show ¬ most < len from by omega]))
  · refine s_bipush (-2) X dX3_asText_8 (by decide) ?_
    refine s_iret X Y dX3_asText_10 (rfl) ?_
    refine ⟨?_, ?_⟩
    · (first | (exfalso; omega) | (simp [show most < len from by omega]) | (simp [show ¬ most < len from by omega]))
    · (first | (exfalso; omega) | (simp [show most < len from by omega]) | (simp [show ¬ most < len from by omega]))
set_option maxRecDepth 100000 in
set_option maxHeartbeats 4000000 in
theorem c_X3_asWhole (l : Launch) (G : GX) (k : Nat) (x : Nat) (i8 : Nat) (d8 : Nat) (pl : Int) (af : Int) (wh : Int) (len : Int) (ror : Int) (rl : Int) (re : UInt64) (kd : Int) (v : Int)  : CtI l G yX3_asWhole cX3_asWhole 4 (some .int) ({ frames := 0, cells := 0, slots := 0, locals := 0 } : Room) [.ref k, .int (iI kd), .long (lI v)] [oTk k pl af wh re x len i8 d8 ror rl] (fun (z : Int) (w : va_W) => z = kd ∧ w = [oTk k pl af v re x 0 i8 d8 ror rl]) := by
  intro sz
  refine met_of (fun wc sz => va_Qi (qI _) (posW G wc sz) (va_A wc sz)) (by decide) [(0, .ref k), (1, .int (iI kd)), (2, .long (lI v))] rfl (Nat.le_of_ble_eq_true rfl) (fun K hK9 hnm X Y => ?_)
  subst hK9
  replace Y : RI K G (some .int) 0 0 _ := Y
  refine s_aload_n X dX3_asWhole_0 rfl 0 rfl ?_
  refine s_iconst X dX3_asWhole_1 ?_
  refine s_put X dX3_asWhole_2 fl_X3_38 tyX3_ok nmX3 0 rfl rfl (rfl) (rfl) (Nat.le_of_ble_eq_true rfl) [oTk k pl af wh re x 0 i8 d8 ror rl] rfl ?_
  refine s_aload_n X dX3_asWhole_5 rfl 0 rfl ?_
  refine s_lload_n X dX3_asWhole_6 rfl 2 rfl ?_
  refine s_put X dX3_asWhole_7 fl_X3_30 tyX3_ok nmX3 0 rfl rfl (rfl) (rfl) (Nat.le_of_ble_eq_true rfl) [oTk k pl af v re x 0 i8 d8 ror rl] rfl ?_
  refine s_iload_n X dX3_asWhole_10 rfl 1 rfl ?_
  refine s_iret X Y dX3_asWhole_11 (rfl) ?_
  refine ⟨?_, rfl⟩
  · (first | (exfalso; omega) | (first | rfl | omega | (simp [*]; done)))
set_option maxRecDepth 100000 in
set_option maxHeartbeats 4000000 in
theorem c_X3_asReal (l : Launch) (G : GX) (k : Nat) (x : Nat) (i8 : Nat) (d8 : Nat) (pl : Int) (af : Int) (wh : Int) (len : Int) (ror : Int) (rl : Int) (re : UInt64) (v : UInt64)  : CtI l G yX3_asReal cX3_asReal 3 (some .int) ({ frames := 0, cells := 0, slots := 0, locals := 0 } : Room) [.ref k, .double v] [oTk k pl af wh re x len i8 d8 ror rl] (fun (z : Int) (w : va_W) => z = 2 ∧ w = [oTk k pl af 0 v x 0 i8 d8 ror rl]) := by
  intro sz
  refine met_of (fun wc sz => va_Qi (qI _) (posW G wc sz) (va_A wc sz)) (by decide) [(0, .ref k), (1, .double v)] rfl (Nat.le_of_ble_eq_true rfl) (fun K hK9 hnm X Y => ?_)
  subst hK9
  replace Y : RI K G (some .int) 0 0 _ := Y
  refine s_aload_n X dX3_asReal_0 rfl 0 rfl ?_
  refine s_iconst X dX3_asReal_1 ?_
  refine s_put X dX3_asReal_2 fl_X3_38 tyX3_ok nmX3 0 rfl rfl (rfl) (rfl) (Nat.le_of_ble_eq_true rfl) [oTk k pl af wh re x 0 i8 d8 ror rl] rfl ?_
  refine s_aload_n X dX3_asReal_5 rfl 0 rfl ?_
  refine s_lconst0 X dX3_asReal_6 ?_
  refine s_put X dX3_asReal_7 fl_X3_30 tyX3_ok nmX3 0 rfl rfl (rfl) (rfl) (Nat.le_of_ble_eq_true rfl) [oTk k pl af 0 re x 0 i8 d8 ror rl] rfl ?_
  refine s_aload_n X dX3_asReal_10 rfl 0 rfl ?_
  refine s_dload_n X dX3_asReal_11 rfl 1 rfl ?_
  refine s_put X dX3_asReal_12 fl_X3_34 tyX3_ok nmX3 0 rfl rfl (rfl) (rfl) (Nat.le_of_ble_eq_true rfl) [oTk k pl af 0 v x 0 i8 d8 ror rl] rfl ?_
  refine s_iconst X dX3_asReal_15 ?_
  refine s_iret X Y dX3_asReal_16 (rfl) ?_
  refine ⟨?_, rfl⟩
  · (first | (exfalso; omega) | (first | rfl | omega | (simp [*]; done)))
set_option maxRecDepth 100000 in
set_option maxHeartbeats 4000000 in
theorem c_X3_putInRow (l : Launch) (G : GX) (k : Nat) (x : Nat) (i8 : Nat) (d8 : Nat) (pl : Int) (af : Int) (wh : Int) (len : Int) (ror : Int) (rl : Int) (re : UInt64) (rn : Nat → Int) (rr : Nat → UInt64) (v : Int) (u : UInt64) (hrl : 0 ≤ rl ∧ rl ≤ 60) : CtV l G yX3_putInRow cX3_putInRow 4 none ({ frames := 0, cells := 0, slots := 0, locals := 0 } : Room) [.ref k, .int (iI v), .double u] [oTk k pl af wh re x len i8 d8 ror rl, aI G i8 60 rn, aF G d8 60 rr] (fun (w : va_W) => w = [oTk k pl af wh re x len i8 d8 ror (if rl < 60 then rl + 1 else rl), aI G i8 60 (if rl < 60 then uI rn rl.toNat v else rn), aF G d8 60 (if rl < 60 then uD rr rl.toNat u else rr)]) := by
  intro sz
  refine met_of (fun wc sz => va_Qv _ (posW G wc sz) (va_A wc sz)) (by decide) [(0, .ref k), (1, .int (iI v)), (2, .double u)] rfl (Nat.le_of_ble_eq_true rfl) (fun K hK9 hnm X Y => ?_)
  subst hK9
  replace Y : RV K G none 0 0 _ := Y
  refine s_aload_n X dX3_putInRow_0 rfl 0 rfl ?_
  refine s_get X dX3_putInRow_1 fl_X3_41 0 rfl rfl ?_
  refine s_aload_n X dX3_putInRow_4 rfl 0 rfl ?_
  refine s_get X dX3_putInRow_5 fl_X3_15 0 rfl rfl ?_
  refine s_alen (z := 60) X dX3_putInRow_8 1 1 rfl rfl rfl ?_
  refine s_icmp_ge X 54 dX3_putInRow_9 (by decide) (by omega) (fun c9 => ?_) (fun c9 => ?_)
  · refine s_vret X Y dX3_putInRow_54 ?_
    · (first | (exfalso; omega) | (simp [show rl < 60 from by omega]) | (simp [show ¬ rl < 60 from by omega]))
  · refine s_aload_n X dX3_putInRow_12 rfl 0 rfl ?_
    refine s_get X dX3_putInRow_13 fl_X3_41 0 rfl rfl ?_
    refine s_aload_n X dX3_putInRow_16 rfl 0 rfl ?_
    refine s_get X dX3_putInRow_17 fl_X3_19 0 rfl rfl ?_
    refine s_alen (z := 60) X dX3_putInRow_20 2 2 rfl rfl rfl ?_
    refine s_icmp_ge X 54 dX3_putInRow_21 (by decide) (by omega) (fun c21 => ?_) (fun c21 => ?_)
    · refine s_vret X Y dX3_putInRow_54 ?_
      · (first | (exfalso; omega) | (simp [show rl < 60 from by omega]) | (simp [show ¬ rl < 60 from by omega]))
    · refine s_aload_n X dX3_putInRow_24 rfl 0 rfl ?_
      refine s_get X dX3_putInRow_25 fl_X3_15 0 rfl rfl ?_
      refine s_aload_n X dX3_putInRow_28 rfl 0 rfl ?_
      refine s_get X dX3_putInRow_29 fl_X3_41 0 rfl rfl ?_
      refine s_iload_n X dX3_putInRow_32 rfl 1 rfl ?_
      refine s_iast X dX3_putInRow_33 1 rfl (by omega) [oTk k pl af wh re x len i8 d8 ror rl, aI G i8 60 (uI rn rl.toNat v), aF G d8 60 rr] rfl ?_
      refine s_aload_n X dX3_putInRow_34 rfl 0 rfl ?_
      refine s_get X dX3_putInRow_35 fl_X3_19 0 rfl rfl ?_
      refine s_aload_n X dX3_putInRow_38 rfl 0 rfl ?_
      refine s_get X dX3_putInRow_39 fl_X3_41 0 rfl rfl ?_
      refine s_dload_n X dX3_putInRow_42 rfl 2 rfl ?_
      refine s_dast X dX3_putInRow_43 2 rfl (by omega) [oTk k pl af wh re x len i8 d8 ror rl, aI G i8 60 (uI rn rl.toNat v), aF G d8 60 (uD rr rl.toNat u)] rfl ?_
      refine s_aload_n X dX3_putInRow_44 rfl 0 rfl ?_
      refine s_dup X dX3_putInRow_45 rfl ?_
      refine s_get X dX3_putInRow_46 fl_X3_41 0 rfl rfl ?_
      refine s_iconst X dX3_putInRow_49 ?_
      refine s_iadd X dX3_putInRow_50 ?_
      refine s_put X dX3_putInRow_51 fl_X3_41 tyX3_ok nmX3 0 rfl rfl (rfl) (rfl) (Nat.le_of_ble_eq_true rfl) [oTk k pl af wh re x len i8 d8 ror (rl + 1), aI G i8 60 (uI rn rl.toNat v), aF G d8 60 (uD rr rl.toNat u)] rfl ?_
      refine s_vret X Y dX3_putInRow_54 ?_
      · (first | (exfalso; omega) | (simp [show rl < 60 from by omega]) | (simp [show ¬ rl < 60 from by omega]))
set_option maxRecDepth 100000 in
set_option maxHeartbeats 4000000 in
theorem c_X3_hasInRow (l : Launch) (G : GX) (k : Nat) (x : Nat) (i8 : Nat) (d8 : Nat) (pl : Int) (af : Int) (wh : Int) (len : Int) (ror : Int) (rl : Int) (re : UInt64) (i : Int) (hrl : 0 ≤ rl ∧ rl ≤ 60) (hi : R32 i) : CtI l G yX3_hasInRow cX3_hasInRow 2 (some .boolean) ({ frames := 0, cells := 0, slots := 0, locals := 0 } : Room) [.ref k, .int (iI i)] [oTk k pl af wh re x len i8 d8 ror rl] (fun (z : Int) (w : va_W) => z = (tf (0 ≤ i ∧ i < rl)) ∧ w = [oTk k pl af wh re x len i8 d8 ror rl]) := by
  intro sz
  refine met_of (fun wc sz => va_Qi (qI _) (posW G wc sz) (va_A wc sz)) (by decide) [(0, .ref k), (1, .int (iI i))] rfl (Nat.le_of_ble_eq_true rfl) (fun K hK9 hnm X Y => ?_)
  subst hK9
  replace Y : RI K G (some .boolean) 0 0 _ := Y
  refine s_iload_n X dX3_hasInRow_0 rfl 1 rfl ?_
  refine s_if_lt X 16 dX3_hasInRow_1 (by decide) (by omega) (fun c1 => ?_) (fun c1 => ?_)
  · refine s_iconst X dX3_hasInRow_16 ?_
    refine s_iret X Y dX3_hasInRow_17 (rfl) ?_
    refine ⟨?_, rfl⟩
    · (first | (exfalso; omega) | (first | exact (tf_t (by omega)).symm | exact (tf_f (by omega)).symm))
  · refine s_iload_n X dX3_hasInRow_4 rfl 1 rfl ?_
    refine s_aload_n X dX3_hasInRow_5 rfl 0 rfl ?_
    refine s_get X dX3_hasInRow_6 fl_X3_41 0 rfl rfl ?_
    refine s_icmp_ge X 16 dX3_hasInRow_9 (by decide) (by omega) (fun c9 => ?_) (fun c9 => ?_)
    · refine s_iconst X dX3_hasInRow_16 ?_
      refine s_iret X Y dX3_hasInRow_17 (rfl) ?_
      refine ⟨?_, rfl⟩
      · (first | (exfalso; omega) | (first | exact (tf_t (by omega)).symm | exact (tf_f (by omega)).symm))
    · refine s_iconst X dX3_hasInRow_12 ?_
      refine s_goto X 17 dX3_hasInRow_13 (by decide) ?_
      refine s_iret X Y dX3_hasInRow_17 (rfl) ?_
      refine ⟨?_, rfl⟩
      · (first | (exfalso; omega) | (first | exact (tf_t (by omega)).symm | exact (tf_f (by omega)).symm))
set_option maxRecDepth 100000 in
set_option maxHeartbeats 4000000 in
theorem c_X3_wrongByte (l : Launch) (G : GX) (k : Nat) (x : Nat) (i8 : Nat) (d8 : Nat) (pl : Int) (af : Int) (wh : Int) (len : Int) (ror : Int) (rl : Int) (re : UInt64) (an : Int) (q : Int)  : CtI l G yX3_wrongByte cX3_wrongByte 3 (some .int) ({ frames := 0, cells := 0, slots := 0, locals := 0 } : Room) [.ref k, .int (iI an), .int (iI q)] [oTk k pl af wh re x len i8 d8 ror rl] (fun (z : Int) (w : va_W) => z = an ∧ w = [oTk k q (q + 1) wh re x len i8 d8 ror rl]) := by
  intro sz
  refine met_of (fun wc sz => va_Qi (qI _) (posW G wc sz) (va_A wc sz)) (by decide) [(0, .ref k), (1, .int (iI an)), (2, .int (iI q))] rfl (Nat.le_of_ble_eq_true rfl) (fun K hK9 hnm X Y => ?_)
  subst hK9
  replace Y : RI K G (some .int) 0 0 _ := Y
  refine s_aload_n X dX3_wrongByte_0 rfl 0 rfl ?_
  refine s_iload_n X dX3_wrongByte_1 rfl 2 rfl ?_
  refine s_put X dX3_wrongByte_2 fl_X3_23 tyX3_ok nmX3 0 rfl rfl (rfl) (rfl) (Nat.le_of_ble_eq_true rfl) [oTk k q af wh re x len i8 d8 ror rl] rfl ?_
  refine s_aload_n X dX3_wrongByte_5 rfl 0 rfl ?_
  refine s_iload_n X dX3_wrongByte_6 rfl 2 rfl ?_
  refine s_iconst X dX3_wrongByte_7 ?_
  refine s_iadd X dX3_wrongByte_8 ?_
  refine s_put X dX3_wrongByte_9 fl_X3_27 tyX3_ok nmX3 0 rfl rfl (rfl) (rfl) (Nat.le_of_ble_eq_true rfl) [oTk k q (q + 1) wh re x len i8 d8 ror rl] rfl ?_
  refine s_iload_n X dX3_wrongByte_12 rfl 1 rfl ?_
  refine s_iret X Y dX3_wrongByte_13 (rfl) ?_
  refine ⟨?_, rfl⟩
  · (first | (exfalso; omega) | (first | rfl | omega | (simp [*]; done)))
set_option maxRecDepth 100000 in
set_option maxHeartbeats 4000000 in
theorem c_X5_digitOf (l : Launch) (G : GX) (c : Int) (hc : R32 c) : CtI l G yX5_digitOf cX5_digitOf 1 (some .int) ({ frames := 0, cells := 0, slots := 0, locals := 0 } : Room) [.int (iI c)] [] (fun (z : Int) (w : va_W) => z = (dg c) ∧ w = []) := by
  intro sz
  refine met_of (fun wc sz => va_Qi (qI _) (posW G wc sz) (va_A wc sz)) (by decide) [(0, .int (iI c))] rfl (Nat.le_of_ble_eq_true rfl) (fun K hK9 hnm X Y => ?_)
  subst hK9
  replace Y : RI K G (some .int) 0 0 _ := Y
  refine s_iload_n X dX5_digitOf_0 rfl 0 rfl ?_
  refine s_bipush 48 X dX5_digitOf_1 (by decide) ?_
  refine s_icmp_lt X 17 dX5_digitOf_3 (by decide) (by omega) (fun c3 => ?_) (fun c3 => ?_)
  · refine s_iload_n X dX5_digitOf_17 rfl 0 rfl ?_
    refine s_bipush 97 X dX5_digitOf_18 (by decide) ?_
    refine s_icmp_lt X 37 dX5_digitOf_20 (by decide) (by omega) (fun c20 => ?_) (fun c20 => ?_)
    · refine s_iload_n X dX5_digitOf_37 rfl 0 rfl ?_
      refine s_bipush 65 X dX5_digitOf_38 (by decide) ?_
      refine s_icmp_lt X 57 dX5_digitOf_40 (by decide) (by omega) (fun c40 => ?_) (fun c40 => ?_)
      · refine s_bipush 36 X dX5_digitOf_57 (by decide) ?_
        refine s_iret X Y dX5_digitOf_59 (rfl) ?_
        refine ⟨?_, rfl⟩
        · (first | (exfalso; omega) | (unfold dg; (repeat' split) <;> omega))
      · refine s_iload_n X dX5_digitOf_43 rfl 0 rfl ?_
        refine s_bipush 90 X dX5_digitOf_44 (by decide) ?_
        refine s_icmp_gt X 57 dX5_digitOf_46 (by decide) (by omega) (fun c46 => ?_) (fun c46 => ?_)
        · refine s_bipush 36 X dX5_digitOf_57 (by decide) ?_
          refine s_iret X Y dX5_digitOf_59 (rfl) ?_
          refine ⟨?_, rfl⟩
          · (first | (exfalso; omega) | (unfold dg; (repeat' split) <;> omega))
        · refine s_iload_n X dX5_digitOf_49 rfl 0 rfl ?_
          refine s_bipush 65 X dX5_digitOf_50 (by decide) ?_
          refine s_isub X dX5_digitOf_52 ?_
          refine s_bipush 10 X dX5_digitOf_53 (by decide) ?_
          refine s_iadd X dX5_digitOf_55 ?_
          refine s_iret X Y dX5_digitOf_56 (rfl) ?_
          refine ⟨?_, rfl⟩
          · (first | (exfalso; omega) | (unfold dg; (repeat' split) <;> omega))
    · refine s_iload_n X dX5_digitOf_23 rfl 0 rfl ?_
      refine s_bipush 122 X dX5_digitOf_24 (by decide) ?_
      refine s_icmp_gt X 37 dX5_digitOf_26 (by decide) (by omega) (fun c26 => ?_) (fun c26 => ?_)
      · refine s_iload_n X dX5_digitOf_37 rfl 0 rfl ?_
        refine s_bipush 65 X dX5_digitOf_38 (by decide) ?_
        refine s_icmp_lt X 57 dX5_digitOf_40 (by decide) (by omega) (fun c40 => ?_) (fun c40 => ?_)
        · refine s_bipush 36 X dX5_digitOf_57 (by decide) ?_
          refine s_iret X Y dX5_digitOf_59 (rfl) ?_
          refine ⟨?_, rfl⟩
          · (first | (exfalso; omega) | (unfold dg; (repeat' split) <;> omega))
        · refine s_iload_n X dX5_digitOf_43 rfl 0 rfl ?_
          refine s_bipush 90 X dX5_digitOf_44 (by decide) ?_
          refine s_icmp_gt X 57 dX5_digitOf_46 (by decide) (by omega) (fun c46 => ?_) (fun c46 => ?_)
          · refine s_bipush 36 X dX5_digitOf_57 (by decide) ?_
            refine s_iret X Y dX5_digitOf_59 (rfl) ?_
            refine ⟨?_, rfl⟩
            · (first | (exfalso; omega) | (unfold dg; (repeat' split) <;> omega))
          · refine s_iload_n X dX5_digitOf_49 rfl 0 rfl ?_
            refine s_bipush 65 X dX5_digitOf_50 (by decide) ?_
            refine s_isub X dX5_digitOf_52 ?_
            refine s_bipush 10 X dX5_digitOf_53 (by decide) ?_
            refine s_iadd X dX5_digitOf_55 ?_
            refine s_iret X Y dX5_digitOf_56 (rfl) ?_
            refine ⟨?_, rfl⟩
            · (first | (exfalso; omega) | (unfold dg; (repeat' split) <;> omega))
      · refine s_iload_n X dX5_digitOf_29 rfl 0 rfl ?_
        refine s_bipush 97 X dX5_digitOf_30 (by decide) ?_
        refine s_isub X dX5_digitOf_32 ?_
        refine s_bipush 10 X dX5_digitOf_33 (by decide) ?_
        refine s_iadd X dX5_digitOf_35 ?_
        refine s_iret X Y dX5_digitOf_36 (rfl) ?_
        refine ⟨?_, rfl⟩
        · (first | (exfalso; omega) | (unfold dg; (repeat' split) <;> omega))
  · refine s_iload_n X dX5_digitOf_6 rfl 0 rfl ?_
    refine s_bipush 57 X dX5_digitOf_7 (by decide) ?_
    refine s_icmp_gt X 17 dX5_digitOf_9 (by decide) (by omega) (fun c9 => ?_) (fun c9 => ?_)
    · refine s_iload_n X dX5_digitOf_17 rfl 0 rfl ?_
      refine s_bipush 97 X dX5_digitOf_18 (by decide) ?_
      refine s_icmp_lt X 37 dX5_digitOf_20 (by decide) (by omega) (fun c20 => ?_) (fun c20 => ?_)
      · refine s_iload_n X dX5_digitOf_37 rfl 0 rfl ?_
        refine s_bipush 65 X dX5_digitOf_38 (by decide) ?_
        refine s_icmp_lt X 57 dX5_digitOf_40 (by decide) (by omega) (fun c40 => ?_) (fun c40 => ?_)
        · refine s_bipush 36 X dX5_digitOf_57 (by decide) ?_
          refine s_iret X Y dX5_digitOf_59 (rfl) ?_
          refine ⟨?_, rfl⟩
          · (first | (exfalso; omega) | (unfold dg; (repeat' split) <;> omega))
        · refine s_iload_n X dX5_digitOf_43 rfl 0 rfl ?_
          refine s_bipush 90 X dX5_digitOf_44 (by decide) ?_
          refine s_icmp_gt X 57 dX5_digitOf_46 (by decide) (by omega) (fun c46 => ?_) (fun c46 => ?_)
          · refine s_bipush 36 X dX5_digitOf_57 (by decide) ?_
            refine s_iret X Y dX5_digitOf_59 (rfl) ?_
            refine ⟨?_, rfl⟩
            · (first | (exfalso; omega) | (unfold dg; (repeat' split) <;> omega))
          · refine s_iload_n X dX5_digitOf_49 rfl 0 rfl ?_
            refine s_bipush 65 X dX5_digitOf_50 (by decide) ?_
            refine s_isub X dX5_digitOf_52 ?_
            refine s_bipush 10 X dX5_digitOf_53 (by decide) ?_
            refine s_iadd X dX5_digitOf_55 ?_
            refine s_iret X Y dX5_digitOf_56 (rfl) ?_
            refine ⟨?_, rfl⟩
            · (first | (exfalso; omega) | (unfold dg; (repeat' split) <;> omega))
      · refine s_iload_n X dX5_digitOf_23 rfl 0 rfl ?_
        refine s_bipush 122 X dX5_digitOf_24 (by decide) ?_
        refine s_icmp_gt X 37 dX5_digitOf_26 (by decide) (by omega) (fun c26 => ?_) (fun c26 => ?_)
        · refine s_iload_n X dX5_digitOf_37 rfl 0 rfl ?_
          refine s_bipush 65 X dX5_digitOf_38 (by decide) ?_
          refine s_icmp_lt X 57 dX5_digitOf_40 (by decide) (by omega) (fun c40 => ?_) (fun c40 => ?_)
          · refine s_bipush 36 X dX5_digitOf_57 (by decide) ?_
            refine s_iret X Y dX5_digitOf_59 (rfl) ?_
            refine ⟨?_, rfl⟩
            · (first | (exfalso; omega) | (unfold dg; (repeat' split) <;> omega))
          · refine s_iload_n X dX5_digitOf_43 rfl 0 rfl ?_
            refine s_bipush 90 X dX5_digitOf_44 (by decide) ?_
            refine s_icmp_gt X 57 dX5_digitOf_46 (by decide) (by omega) (fun c46 => ?_) (fun c46 => ?_)
            · refine s_bipush 36 X dX5_digitOf_57 (by decide) ?_
              refine s_iret X Y dX5_digitOf_59 (rfl) ?_
              refine ⟨?_, rfl⟩
              · (first | (exfalso; omega) | (unfold dg; (repeat' split) <;> omega))
            · refine s_iload_n X dX5_digitOf_49 rfl 0 rfl ?_
              refine s_bipush 65 X dX5_digitOf_50 (by decide) ?_
              refine s_isub X dX5_digitOf_52 ?_
              refine s_bipush 10 X dX5_digitOf_53 (by decide) ?_
              refine s_iadd X dX5_digitOf_55 ?_
              refine s_iret X Y dX5_digitOf_56 (rfl) ?_
              refine ⟨?_, rfl⟩
              · (first | (exfalso; omega) | (unfold dg; (repeat' split) <;> omega))
        · refine s_iload_n X dX5_digitOf_29 rfl 0 rfl ?_
          refine s_bipush 97 X dX5_digitOf_30 (by decide) ?_
          refine s_isub X dX5_digitOf_32 ?_
          refine s_bipush 10 X dX5_digitOf_33 (by decide) ?_
          refine s_iadd X dX5_digitOf_35 ?_
          refine s_iret X Y dX5_digitOf_36 (rfl) ?_
          refine ⟨?_, rfl⟩
          · (first | (exfalso; omega) | (unfold dg; (repeat' split) <;> omega))
    · refine s_iload_n X dX5_digitOf_12 rfl 0 rfl ?_
      refine s_bipush 48 X dX5_digitOf_13 (by decide) ?_
      refine s_isub X dX5_digitOf_15 ?_
      refine s_iret X Y dX5_digitOf_16 (rfl) ?_
      refine ⟨?_, rfl⟩
      · (first | (exfalso; omega) | (unfold dg; (repeat' split) <;> omega))
end
