section
-- ===== PART A: goes FIRST, ahead of the names: the tables' words, and 'selects' of the private methods out of them =====
/-- a private method of a class that the tables say can be made, by its rows of tables_1 -/
def lw_okq (q : MethodName × Nat) : Prop := (q.1.cls ≠ "java/lang/invoke/MethodHandle" ∧ q.1.cls ≠ "java/lang/invoke/VarHandle") ∧ Cond.instantiable q.1.cls q.2 ∈ tables_1 ∧ Cond.privateMethod q.1 ∈ tables_1 ∧ Cond.instanceMethod q.1 ∈ tables_1
theorem lw_p0 : lw_okq (⟨"LambdaShelf", "freshTerm", "()LLambdaShelf$Code;"⟩, 13) := ⟨⟨by decide +kernel, by decide +kernel⟩, List.mem_of_getElem? (i := 19) (by decide +kernel), List.mem_of_getElem? (i := 230) (by decide +kernel), List.mem_of_getElem? (i := 231) (by decide +kernel)⟩
theorem lw_p1 : lw_okq (⟨"LambdaShelf$Reader", "startRow", "()V"⟩, 13) := ⟨⟨by decide +kernel, by decide +kernel⟩, List.mem_of_getElem? (i := 87) (by decide +kernel), List.mem_of_getElem? (i := 242) (by decide +kernel), List.mem_of_getElem? (i := 243) (by decide +kernel)⟩
theorem lw_p2 : lw_okq (⟨"LambdaShelf$Reader", "putItem", "(I)V"⟩, 13) := ⟨⟨by decide +kernel, by decide +kernel⟩, List.mem_of_getElem? (i := 87) (by decide +kernel), List.mem_of_getElem? (i := 246) (by decide +kernel), List.mem_of_getElem? (i := 247) (by decide +kernel)⟩
theorem lw_p3 : lw_okq (⟨"LambdaShelf$Reader", "takeTokens", "()V"⟩, 13) := ⟨⟨by decide +kernel, by decide +kernel⟩, List.mem_of_getElem? (i := 87) (by decide +kernel), List.mem_of_getElem? (i := 250) (by decide +kernel), List.mem_of_getElem? (i := 251) (by decide +kernel)⟩
theorem lw_p4 : lw_okq (⟨"LambdaShelf$Reader", "findToken", "()V"⟩, 13) := ⟨⟨by decide +kernel, by decide +kernel⟩, List.mem_of_getElem? (i := 87) (by decide +kernel), List.mem_of_getElem? (i := 254) (by decide +kernel), List.mem_of_getElem? (i := 255) (by decide +kernel)⟩
theorem lw_p5 : lw_okq (⟨"LambdaShelf$Reader", "findName", "()V"⟩, 13) := ⟨⟨by decide +kernel, by decide +kernel⟩, List.mem_of_getElem? (i := 87) (by decide +kernel), List.mem_of_getElem? (i := 265) (by decide +kernel), List.mem_of_getElem? (i := 266) (by decide +kernel)⟩
theorem lw_p6 : lw_okq (⟨"LambdaShelf$Reader", "fail", "(I)V"⟩, 13) := ⟨⟨by decide +kernel, by decide +kernel⟩, List.mem_of_getElem? (i := 87) (by decide +kernel), List.mem_of_getElem? (i := 269) (by decide +kernel), List.mem_of_getElem? (i := 270) (by decide +kernel)⟩
theorem lw_p7 : lw_okq (⟨"LambdaShelf$Reader", "findNumber", "()V"⟩, 13) := ⟨⟨by decide +kernel, by decide +kernel⟩, List.mem_of_getElem? (i := 87) (by decide +kernel), List.mem_of_getElem? (i := 276) (by decide +kernel), List.mem_of_getElem? (i := 277) (by decide +kernel)⟩
theorem lw_p8 : lw_okq (⟨"LambdaShelf$Reader", "numberRead", "()I"⟩, 13) := ⟨⟨by decide +kernel, by decide +kernel⟩, List.mem_of_getElem? (i := 87) (by decide +kernel), List.mem_of_getElem? (i := 280) (by decide +kernel), List.mem_of_getElem? (i := 281) (by decide +kernel)⟩
theorem lw_p9 : lw_okq (⟨"LambdaShelf$Reader", "takeToken", "()V"⟩, 13) := ⟨⟨by decide +kernel, by decide +kernel⟩, List.mem_of_getElem? (i := 87) (by decide +kernel), List.mem_of_getElem? (i := 369) (by decide +kernel), List.mem_of_getElem? (i := 370) (by decide +kernel)⟩
theorem lw_p10 : lw_okq (⟨"LambdaShelf$Reader", "takeInHead", "()V"⟩, 13) := ⟨⟨by decide +kernel, by decide +kernel⟩, List.mem_of_getElem? (i := 87) (by decide +kernel), List.mem_of_getElem? (i := 373) (by decide +kernel), List.mem_of_getElem? (i := 374) (by decide +kernel)⟩
theorem lw_p11 : lw_okq (⟨"LambdaShelf$Reader", "openUp", "(I)V"⟩, 13) := ⟨⟨by decide +kernel, by decide +kernel⟩, List.mem_of_getElem? (i := 87) (by decide +kernel), List.mem_of_getElem? (i := 377) (by decide +kernel), List.mem_of_getElem? (i := 378) (by decide +kernel)⟩
theorem lw_p12 : lw_okq (⟨"LambdaShelf$Reader", "takeVariable", "()V"⟩, 13) := ⟨⟨by decide +kernel, by decide +kernel⟩, List.mem_of_getElem? (i := 87) (by decide +kernel), List.mem_of_getElem? (i := 381) (by decide +kernel), List.mem_of_getElem? (i := 382) (by decide +kernel)⟩
theorem lw_p13 : lw_okq (⟨"LambdaShelf$Reader", "isNameAt", "(I)Z"⟩, 13) := ⟨⟨by decide +kernel, by decide +kernel⟩, List.mem_of_getElem? (i := 87) (by decide +kernel), List.mem_of_getElem? (i := 385) (by decide +kernel), List.mem_of_getElem? (i := 386) (by decide +kernel)⟩
theorem lw_p14 : lw_okq (⟨"LambdaShelf$Reader", "takePart", "(I)V"⟩, 13) := ⟨⟨by decide +kernel, by decide +kernel⟩, List.mem_of_getElem? (i := 87) (by decide +kernel), List.mem_of_getElem? (i := 389) (by decide +kernel), List.mem_of_getElem? (i := 390) (by decide +kernel)⟩
theorem lw_p15 : lw_okq (⟨"LambdaShelf$Reader", "countPart", "()V"⟩, 13) := ⟨⟨by decide +kernel, by decide +kernel⟩, List.mem_of_getElem? (i := 87) (by decide +kernel), List.mem_of_getElem? (i := 393) (by decide +kernel), List.mem_of_getElem? (i := 394) (by decide +kernel)⟩
def lw_privs_1 : List (MethodName × Nat) := [(⟨"LambdaShelf", "freshTerm", "()LLambdaShelf$Code;"⟩, 13), (⟨"LambdaShelf$Reader", "startRow", "()V"⟩, 13), (⟨"LambdaShelf$Reader", "putItem", "(I)V"⟩, 13), (⟨"LambdaShelf$Reader", "takeTokens", "()V"⟩, 13), (⟨"LambdaShelf$Reader", "findToken", "()V"⟩, 13), (⟨"LambdaShelf$Reader", "findName", "()V"⟩, 13), (⟨"LambdaShelf$Reader", "fail", "(I)V"⟩, 13), (⟨"LambdaShelf$Reader", "findNumber", "()V"⟩, 13), (⟨"LambdaShelf$Reader", "numberRead", "()I"⟩, 13), (⟨"LambdaShelf$Reader", "takeToken", "()V"⟩, 13), (⟨"LambdaShelf$Reader", "takeInHead", "()V"⟩, 13), (⟨"LambdaShelf$Reader", "openUp", "(I)V"⟩, 13), (⟨"LambdaShelf$Reader", "takeVariable", "()V"⟩, 13), (⟨"LambdaShelf$Reader", "isNameAt", "(I)Z"⟩, 13), (⟨"LambdaShelf$Reader", "takePart", "(I)V"⟩, 13), (⟨"LambdaShelf$Reader", "countPart", "()V"⟩, 13)]
theorem lw_r1 : ∀ q ∈ lw_privs_1, lw_okq q := List.forall_mem_cons.mpr ⟨lw_p0, List.forall_mem_cons.mpr ⟨lw_p1, List.forall_mem_cons.mpr ⟨lw_p2, List.forall_mem_cons.mpr ⟨lw_p3, List.forall_mem_cons.mpr ⟨lw_p4, List.forall_mem_cons.mpr ⟨lw_p5, List.forall_mem_cons.mpr ⟨lw_p6, List.forall_mem_cons.mpr ⟨lw_p7, List.forall_mem_cons.mpr ⟨lw_p8, List.forall_mem_cons.mpr ⟨lw_p9, List.forall_mem_cons.mpr ⟨lw_p10, List.forall_mem_cons.mpr ⟨lw_p11, List.forall_mem_cons.mpr ⟨lw_p12, List.forall_mem_cons.mpr ⟨lw_p13, List.forall_mem_cons.mpr ⟨lw_p14, List.forall_mem_cons.mpr ⟨lw_p15, fun _ h => absurd h List.not_mem_nil⟩⟩⟩⟩⟩⟩⟩⟩⟩⟩⟩⟩⟩⟩⟩⟩
theorem lw_p16 : lw_okq (⟨"LambdaShelf$Reader", "takeSign", "(I)V"⟩, 13) := ⟨⟨by decide +kernel, by decide +kernel⟩, List.mem_of_getElem? (i := 87) (by decide +kernel), List.mem_of_getElem? (i := 397) (by decide +kernel), List.mem_of_getElem? (i := 398) (by decide +kernel)⟩
theorem lw_p17 : lw_okq (⟨"LambdaShelf$Reader", "closeParenthesis", "()V"⟩, 13) := ⟨⟨by decide +kernel, by decide +kernel⟩, List.mem_of_getElem? (i := 87) (by decide +kernel), List.mem_of_getElem? (i := 401) (by decide +kernel), List.mem_of_getElem? (i := 402) (by decide +kernel)⟩
theorem lw_p18 : lw_okq (⟨"LambdaShelf$Reader", "innermostParenthesis", "()I"⟩, 13) := ⟨⟨by decide +kernel, by decide +kernel⟩, List.mem_of_getElem? (i := 87) (by decide +kernel), List.mem_of_getElem? (i := 405) (by decide +kernel), List.mem_of_getElem? (i := 406) (by decide +kernel)⟩
theorem lw_p19 : lw_okq (⟨"LambdaShelf$Reader", "isRowEmpty", "()Z"⟩, 13) := ⟨⟨by decide +kernel, by decide +kernel⟩, List.mem_of_getElem? (i := 87) (by decide +kernel), List.mem_of_getElem? (i := 409) (by decide +kernel), List.mem_of_getElem? (i := 410) (by decide +kernel)⟩
theorem lw_p20 : lw_okq (⟨"LambdaShelf$Reader", "takeEnd", "()V"⟩, 13) := ⟨⟨by decide +kernel, by decide +kernel⟩, List.mem_of_getElem? (i := 87) (by decide +kernel), List.mem_of_getElem? (i := 413) (by decide +kernel), List.mem_of_getElem? (i := 414) (by decide +kernel)⟩
theorem lw_p21 : lw_okq (⟨"LambdaShelf$Reader", "putItems", "(LLambdaShelf$Code;)V"⟩, 13) := ⟨⟨by decide +kernel, by decide +kernel⟩, List.mem_of_getElem? (i := 87) (by decide +kernel), List.mem_of_getElem? (i := 417) (by decide +kernel), List.mem_of_getElem? (i := 418) (by decide +kernel)⟩
theorem lw_p22 : lw_okq (⟨"LambdaShelf", "keepFresh", "()I"⟩, 13) := ⟨⟨by decide +kernel, by decide +kernel⟩, List.mem_of_getElem? (i := 19) (by decide +kernel), List.mem_of_getElem? (i := 431) (by decide +kernel), List.mem_of_getElem? (i := 432) (by decide +kernel)⟩
theorem lw_p23 : lw_okq (⟨"LambdaShelf", "termAt", "(I)LLambdaShelf$Code;"⟩, 13) := ⟨⟨by decide +kernel, by decide +kernel⟩, List.mem_of_getElem? (i := 19) (by decide +kernel), List.mem_of_getElem? (i := 444) (by decide +kernel), List.mem_of_getElem? (i := 445) (by decide +kernel)⟩
theorem lw_p24 : lw_okq (⟨"LambdaShelf$Teller", "tellNode", "(I)V"⟩, 6) := ⟨⟨by decide +kernel, by decide +kernel⟩, List.mem_of_getElem? (i := 134) (by decide +kernel), List.mem_of_getElem? (i := 465) (by decide +kernel), List.mem_of_getElem? (i := 466) (by decide +kernel)⟩
theorem lw_p25 : lw_okq (⟨"LambdaShelf$Teller", "isWrapped", "(I)Z"⟩, 6) := ⟨⟨by decide +kernel, by decide +kernel⟩, List.mem_of_getElem? (i := 134) (by decide +kernel), List.mem_of_getElem? (i := 469) (by decide +kernel), List.mem_of_getElem? (i := 470) (by decide +kernel)⟩
theorem lw_p26 : lw_okq (⟨"LambdaShelf$Teller", "tell", "(I)V"⟩, 6) := ⟨⟨by decide +kernel, by decide +kernel⟩, List.mem_of_getElem? (i := 134) (by decide +kernel), List.mem_of_getElem? (i := 473) (by decide +kernel), List.mem_of_getElem? (i := 474) (by decide +kernel)⟩
theorem lw_p27 : lw_okq (⟨"LambdaShelf$Teller", "goInto", "(I)V"⟩, 6) := ⟨⟨by decide +kernel, by decide +kernel⟩, List.mem_of_getElem? (i := 134) (by decide +kernel), List.mem_of_getElem? (i := 477) (by decide +kernel), List.mem_of_getElem? (i := 478) (by decide +kernel)⟩
theorem lw_p28 : lw_okq (⟨"LambdaShelf$Teller", "tellName", "(I)V"⟩, 6) := ⟨⟨by decide +kernel, by decide +kernel⟩, List.mem_of_getElem? (i := 134) (by decide +kernel), List.mem_of_getElem? (i := 481) (by decide +kernel), List.mem_of_getElem? (i := 482) (by decide +kernel)⟩
theorem lw_p29 : lw_okq (⟨"LambdaShelf$Teller", "tellLeaf", "(I)V"⟩, 6) := ⟨⟨by decide +kernel, by decide +kernel⟩, List.mem_of_getElem? (i := 134) (by decide +kernel), List.mem_of_getElem? (i := 485) (by decide +kernel), List.mem_of_getElem? (i := 486) (by decide +kernel)⟩
theorem lw_p30 : lw_okq (⟨"LambdaShelf$Teller", "leaveEnded", "()V"⟩, 6) := ⟨⟨by decide +kernel, by decide +kernel⟩, List.mem_of_getElem? (i := 134) (by decide +kernel), List.mem_of_getElem? (i := 510) (by decide +kernel), List.mem_of_getElem? (i := 511) (by decide +kernel)⟩
theorem lw_p31 : lw_okq (⟨"LambdaShelf$Turner", "firstPlace", "(LLambdaShelf$Code;)I"⟩, 2) := ⟨⟨by decide +kernel, by decide +kernel⟩, List.mem_of_getElem? (i := 159) (by decide +kernel), List.mem_of_getElem? (i := 559) (by decide +kernel), List.mem_of_getElem? (i := 560) (by decide +kernel)⟩
def lw_privs_2 : List (MethodName × Nat) := [(⟨"LambdaShelf$Reader", "takeSign", "(I)V"⟩, 13), (⟨"LambdaShelf$Reader", "closeParenthesis", "()V"⟩, 13), (⟨"LambdaShelf$Reader", "innermostParenthesis", "()I"⟩, 13), (⟨"LambdaShelf$Reader", "isRowEmpty", "()Z"⟩, 13), (⟨"LambdaShelf$Reader", "takeEnd", "()V"⟩, 13), (⟨"LambdaShelf$Reader", "putItems", "(LLambdaShelf$Code;)V"⟩, 13), (⟨"LambdaShelf", "keepFresh", "()I"⟩, 13), (⟨"LambdaShelf", "termAt", "(I)LLambdaShelf$Code;"⟩, 13), (⟨"LambdaShelf$Teller", "tellNode", "(I)V"⟩, 6), (⟨"LambdaShelf$Teller", "isWrapped", "(I)Z"⟩, 6), (⟨"LambdaShelf$Teller", "tell", "(I)V"⟩, 6), (⟨"LambdaShelf$Teller", "goInto", "(I)V"⟩, 6), (⟨"LambdaShelf$Teller", "tellName", "(I)V"⟩, 6), (⟨"LambdaShelf$Teller", "tellLeaf", "(I)V"⟩, 6), (⟨"LambdaShelf$Teller", "leaveEnded", "()V"⟩, 6), (⟨"LambdaShelf$Turner", "firstPlace", "(LLambdaShelf$Code;)I"⟩, 2)]
theorem lw_r2 : ∀ q ∈ lw_privs_2, lw_okq q := List.forall_mem_cons.mpr ⟨lw_p16, List.forall_mem_cons.mpr ⟨lw_p17, List.forall_mem_cons.mpr ⟨lw_p18, List.forall_mem_cons.mpr ⟨lw_p19, List.forall_mem_cons.mpr ⟨lw_p20, List.forall_mem_cons.mpr ⟨lw_p21, List.forall_mem_cons.mpr ⟨lw_p22, List.forall_mem_cons.mpr ⟨lw_p23, List.forall_mem_cons.mpr ⟨lw_p24, List.forall_mem_cons.mpr ⟨lw_p25, List.forall_mem_cons.mpr ⟨lw_p26, List.forall_mem_cons.mpr ⟨lw_p27, List.forall_mem_cons.mpr ⟨lw_p28, List.forall_mem_cons.mpr ⟨lw_p29, List.forall_mem_cons.mpr ⟨lw_p30, List.forall_mem_cons.mpr ⟨lw_p31, fun _ h => absurd h List.not_mem_nil⟩⟩⟩⟩⟩⟩⟩⟩⟩⟩⟩⟩⟩⟩⟩⟩
theorem lw_p32 : lw_okq (⟨"LambdaShelf$Turner", "innerPlace", "(LLambdaShelf$Code;)I"⟩, 2) := ⟨⟨by decide +kernel, by decide +kernel⟩, List.mem_of_getElem? (i := 159) (by decide +kernel), List.mem_of_getElem? (i := 567) (by decide +kernel), List.mem_of_getElem? (i := 568) (by decide +kernel)⟩
theorem lw_p33 : lw_okq (⟨"LambdaShelf$Shape", "endBy", "(II)I"⟩, 2) := ⟨⟨by decide +kernel, by decide +kernel⟩, List.mem_of_getElem? (i := 74) (by decide +kernel), List.mem_of_getElem? (i := 578) (by decide +kernel), List.mem_of_getElem? (i := 579) (by decide +kernel)⟩
theorem lw_p34 : lw_okq (⟨"LambdaShelf$Shape", "putDepth", "(II)V"⟩, 2) := ⟨⟨by decide +kernel, by decide +kernel⟩, List.mem_of_getElem? (i := 74) (by decide +kernel), List.mem_of_getElem? (i := 586) (by decide +kernel), List.mem_of_getElem? (i := 587) (by decide +kernel)⟩
theorem lw_p35 : lw_okq (⟨"LambdaShelf$Shape", "spreadDepth", "(II)V"⟩, 2) := ⟨⟨by decide +kernel, by decide +kernel⟩, List.mem_of_getElem? (i := 74) (by decide +kernel), List.mem_of_getElem? (i := 590) (by decide +kernel), List.mem_of_getElem? (i := 591) (by decide +kernel)⟩
theorem lw_p36 : lw_okq (⟨"LambdaShelf$Turner", "headPlace", "(LLambdaShelf$Code;)I"⟩, 2) := ⟨⟨by decide +kernel, by decide +kernel⟩, List.mem_of_getElem? (i := 159) (by decide +kernel), List.mem_of_getElem? (i := 599) (by decide +kernel), List.mem_of_getElem? (i := 600) (by decide +kernel)⟩
theorem lw_p37 : lw_okq (⟨"LambdaShelf$Turner", "shorterPlace", "(LLambdaShelf$Code;)I"⟩, 2) := ⟨⟨by decide +kernel, by decide +kernel⟩, List.mem_of_getElem? (i := 159) (by decide +kernel), List.mem_of_getElem? (i := 603) (by decide +kernel), List.mem_of_getElem? (i := 604) (by decide +kernel)⟩
theorem lw_p38 : lw_okq (⟨"LambdaShelf$Turner", "isShortened", "(LLambdaShelf$Code;I)Z"⟩, 2) := ⟨⟨by decide +kernel, by decide +kernel⟩, List.mem_of_getElem? (i := 159) (by decide +kernel), List.mem_of_getElem? (i := 607) (by decide +kernel), List.mem_of_getElem? (i := 608) (by decide +kernel)⟩
theorem lw_p39 : lw_okq (⟨"LambdaShelf$Turner", "isBoundIn", "(LLambdaShelf$Code;III)Z"⟩, 2) := ⟨⟨by decide +kernel, by decide +kernel⟩, List.mem_of_getElem? (i := 159) (by decide +kernel), List.mem_of_getElem? (i := 612) (by decide +kernel), List.mem_of_getElem? (i := 613) (by decide +kernel)⟩
theorem lw_p40 : lw_okq (⟨"LambdaShelf$Turner", "putBody", "(LLambdaShelf$Code;III)V"⟩, 2) := ⟨⟨by decide +kernel, by decide +kernel⟩, List.mem_of_getElem? (i := 159) (by decide +kernel), List.mem_of_getElem? (i := 625) (by decide +kernel), List.mem_of_getElem? (i := 626) (by decide +kernel)⟩
theorem lw_p41 : lw_okq (⟨"LambdaShelf$Turner", "putRaised", "(LLambdaShelf$Code;III)V"⟩, 2) := ⟨⟨by decide +kernel, by decide +kernel⟩, List.mem_of_getElem? (i := 159) (by decide +kernel), List.mem_of_getElem? (i := 629) (by decide +kernel), List.mem_of_getElem? (i := 630) (by decide +kernel)⟩
theorem lw_p42 : lw_okq (⟨"LambdaShelf$Turner", "putTurned", "(LLambdaShelf$Code;II)V"⟩, 2) := ⟨⟨by decide +kernel, by decide +kernel⟩, List.mem_of_getElem? (i := 159) (by decide +kernel), List.mem_of_getElem? (i := 634) (by decide +kernel), List.mem_of_getElem? (i := 635) (by decide +kernel)⟩
theorem lw_p43 : lw_okq (⟨"LambdaShelf$Turner", "putShared", "(LLambdaShelf$Code;II)V"⟩, 2) := ⟨⟨by decide +kernel, by decide +kernel⟩, List.mem_of_getElem? (i := 159) (by decide +kernel), List.mem_of_getElem? (i := 639) (by decide +kernel), List.mem_of_getElem? (i := 640) (by decide +kernel)⟩
theorem lw_p44 : lw_okq (⟨"LambdaShelf$Abstracter", "takeLambdaOut", "()Z"⟩, 6) := ⟨⟨by decide +kernel, by decide +kernel⟩, List.mem_of_getElem? (i := 676) (by decide +kernel), List.mem_of_getElem? (i := 708) (by decide +kernel), List.mem_of_getElem? (i := 709) (by decide +kernel)⟩
theorem lw_p45 : lw_okq (⟨"LambdaShelf$Abstracter", "unholdBody", "()V"⟩, 6) := ⟨⟨by decide +kernel, by decide +kernel⟩, List.mem_of_getElem? (i := 676) (by decide +kernel), List.mem_of_getElem? (i := 712) (by decide +kernel), List.mem_of_getElem? (i := 713) (by decide +kernel)⟩
theorem lw_p46 : lw_okq (⟨"LambdaShelf$Abstracter", "heldAt", "(I)I"⟩, 6) := ⟨⟨by decide +kernel, by decide +kernel⟩, List.mem_of_getElem? (i := 676) (by decide +kernel), List.mem_of_getElem? (i := 717) (by decide +kernel), List.mem_of_getElem? (i := 718) (by decide +kernel)⟩
theorem lw_p47 : lw_okq (⟨"LambdaShelf$Abstracter", "countMet", "()V"⟩, 6) := ⟨⟨by decide +kernel, by decide +kernel⟩, List.mem_of_getElem? (i := 676) (by decide +kernel), List.mem_of_getElem? (i := 723) (by decide +kernel), List.mem_of_getElem? (i := 724) (by decide +kernel)⟩
def lw_privs_3 : List (MethodName × Nat) := [(⟨"LambdaShelf$Turner", "innerPlace", "(LLambdaShelf$Code;)I"⟩, 2), (⟨"LambdaShelf$Shape", "endBy", "(II)I"⟩, 2), (⟨"LambdaShelf$Shape", "putDepth", "(II)V"⟩, 2), (⟨"LambdaShelf$Shape", "spreadDepth", "(II)V"⟩, 2), (⟨"LambdaShelf$Turner", "headPlace", "(LLambdaShelf$Code;)I"⟩, 2), (⟨"LambdaShelf$Turner", "shorterPlace", "(LLambdaShelf$Code;)I"⟩, 2), (⟨"LambdaShelf$Turner", "isShortened", "(LLambdaShelf$Code;I)Z"⟩, 2), (⟨"LambdaShelf$Turner", "isBoundIn", "(LLambdaShelf$Code;III)Z"⟩, 2), (⟨"LambdaShelf$Turner", "putBody", "(LLambdaShelf$Code;III)V"⟩, 2), (⟨"LambdaShelf$Turner", "putRaised", "(LLambdaShelf$Code;III)V"⟩, 2), (⟨"LambdaShelf$Turner", "putTurned", "(LLambdaShelf$Code;II)V"⟩, 2), (⟨"LambdaShelf$Turner", "putShared", "(LLambdaShelf$Code;II)V"⟩, 2), (⟨"LambdaShelf$Abstracter", "takeLambdaOut", "()Z"⟩, 6), (⟨"LambdaShelf$Abstracter", "unholdBody", "()V"⟩, 6), (⟨"LambdaShelf$Abstracter", "heldAt", "(I)I"⟩, 6), (⟨"LambdaShelf$Abstracter", "countMet", "()V"⟩, 6)]
theorem lw_r3 : ∀ q ∈ lw_privs_3, lw_okq q := List.forall_mem_cons.mpr ⟨lw_p32, List.forall_mem_cons.mpr ⟨lw_p33, List.forall_mem_cons.mpr ⟨lw_p34, List.forall_mem_cons.mpr ⟨lw_p35, List.forall_mem_cons.mpr ⟨lw_p36, List.forall_mem_cons.mpr ⟨lw_p37, List.forall_mem_cons.mpr ⟨lw_p38, List.forall_mem_cons.mpr ⟨lw_p39, List.forall_mem_cons.mpr ⟨lw_p40, List.forall_mem_cons.mpr ⟨lw_p41, List.forall_mem_cons.mpr ⟨lw_p42, List.forall_mem_cons.mpr ⟨lw_p43, List.forall_mem_cons.mpr ⟨lw_p44, List.forall_mem_cons.mpr ⟨lw_p45, List.forall_mem_cons.mpr ⟨lw_p46, List.forall_mem_cons.mpr ⟨lw_p47, fun _ h => absurd h List.not_mem_nil⟩⟩⟩⟩⟩⟩⟩⟩⟩⟩⟩⟩⟩⟩⟩⟩
theorem lw_p48 : lw_okq (⟨"LambdaShelf$Abstracter", "putAbstracted", "()V"⟩, 6) := ⟨⟨by decide +kernel, by decide +kernel⟩, List.mem_of_getElem? (i := 676) (by decide +kernel), List.mem_of_getElem? (i := 727) (by decide +kernel), List.mem_of_getElem? (i := 728) (by decide +kernel)⟩
theorem lw_p49 : lw_okq (⟨"LambdaShelf$Abstracter", "isMet", "(II)Z"⟩, 6) := ⟨⟨by decide +kernel, by decide +kernel⟩, List.mem_of_getElem? (i := 676) (by decide +kernel), List.mem_of_getElem? (i := 733) (by decide +kernel), List.mem_of_getElem? (i := 734) (by decide +kernel)⟩
theorem lw_p50 : lw_okq (⟨"LambdaShelf$Abstracter", "putLowered", "(II)V"⟩, 6) := ⟨⟨by decide +kernel, by decide +kernel⟩, List.mem_of_getElem? (i := 676) (by decide +kernel), List.mem_of_getElem? (i := 737) (by decide +kernel), List.mem_of_getElem? (i := 738) (by decide +kernel)⟩
theorem lw_p51 : lw_okq (⟨"LambdaShelf$Abstracter", "hold", "(I)Z"⟩, 6) := ⟨⟨by decide +kernel, by decide +kernel⟩, List.mem_of_getElem? (i := 676) (by decide +kernel), List.mem_of_getElem? (i := 741) (by decide +kernel), List.mem_of_getElem? (i := 742) (by decide +kernel)⟩
theorem lw_p52 : lw_okq (⟨"LambdaShelf", "putTrial", "(LLambdaShelf$Code;)V"⟩, 13) := ⟨⟨by decide +kernel, by decide +kernel⟩, List.mem_of_getElem? (i := 19) (by decide +kernel), List.mem_of_getElem? (i := 759) (by decide +kernel), List.mem_of_getElem? (i := 760) (by decide +kernel)⟩
theorem lw_p53 : lw_okq (⟨"LambdaShelf$Typer", "any", "()I"⟩, 13) := ⟨⟨by decide +kernel, by decide +kernel⟩, List.mem_of_getElem? (i := 767) (by decide +kernel), List.mem_of_getElem? (i := 821) (by decide +kernel), List.mem_of_getElem? (i := 822) (by decide +kernel)⟩
theorem lw_p54 : lw_okq (⟨"LambdaShelf$Typer", "arrow", "(II)I"⟩, 13) := ⟨⟨by decide +kernel, by decide +kernel⟩, List.mem_of_getElem? (i := 767) (by decide +kernel), List.mem_of_getElem? (i := 825) (by decide +kernel), List.mem_of_getElem? (i := 826) (by decide +kernel)⟩
theorem lw_p55 : lw_okq (⟨"LambdaShelf$Typer", "await", "(I)V"⟩, 13) := ⟨⟨by decide +kernel, by decide +kernel⟩, List.mem_of_getElem? (i := 767) (by decide +kernel), List.mem_of_getElem? (i := 833) (by decide +kernel), List.mem_of_getElem? (i := 834) (by decide +kernel)⟩
theorem lw_p56 : lw_okq (⟨"LambdaShelf$Typer", "nextWaiting", "()I"⟩, 13) := ⟨⟨by decide +kernel, by decide +kernel⟩, List.mem_of_getElem? (i := 767) (by decide +kernel), List.mem_of_getElem? (i := 838) (by decide +kernel), List.mem_of_getElem? (i := 839) (by decide +kernel)⟩
theorem lw_p57 : lw_okq (⟨"LambdaShelf$Typer", "typeNode", "(III)V"⟩, 13) := ⟨⟨by decide +kernel, by decide +kernel⟩, List.mem_of_getElem? (i := 767) (by decide +kernel), List.mem_of_getElem? (i := 842) (by decide +kernel), List.mem_of_getElem? (i := 843) (by decide +kernel)⟩
theorem lw_p58 : lw_okq (⟨"LambdaShelf$Typer", "typeApply", "(I)V"⟩, 13) := ⟨⟨by decide +kernel, by decide +kernel⟩, List.mem_of_getElem? (i := 767) (by decide +kernel), List.mem_of_getElem? (i := 846) (by decide +kernel), List.mem_of_getElem? (i := 847) (by decide +kernel)⟩
theorem lw_p59 : lw_okq (⟨"LambdaShelf$Typer", "typeOfLambda", "(I)I"⟩, 13) := ⟨⟨by decide +kernel, by decide +kernel⟩, List.mem_of_getElem? (i := 767) (by decide +kernel), List.mem_of_getElem? (i := 851) (by decide +kernel), List.mem_of_getElem? (i := 852) (by decide +kernel)⟩
theorem lw_p60 : lw_okq (⟨"LambdaShelf$Typer", "joinAll", "(II)V"⟩, 13) := ⟨⟨by decide +kernel, by decide +kernel⟩, List.mem_of_getElem? (i := 767) (by decide +kernel), List.mem_of_getElem? (i := 855) (by decide +kernel), List.mem_of_getElem? (i := 856) (by decide +kernel)⟩
theorem lw_p61 : lw_okq (⟨"LambdaShelf$Typer", "join", "(III)I"⟩, 13) := ⟨⟨by decide +kernel, by decide +kernel⟩, List.mem_of_getElem? (i := 767) (by decide +kernel), List.mem_of_getElem? (i := 859) (by decide +kernel), List.mem_of_getElem? (i := 860) (by decide +kernel)⟩
theorem lw_p62 : lw_okq (⟨"LambdaShelf$Typer", "rootOf", "(I)I"⟩, 13) := ⟨⟨by decide +kernel, by decide +kernel⟩, List.mem_of_getElem? (i := 767) (by decide +kernel), List.mem_of_getElem? (i := 863) (by decide +kernel), List.mem_of_getElem? (i := 864) (by decide +kernel)⟩
theorem lw_p63 : lw_okq (⟨"LambdaShelf$Typer", "isArrow", "(I)Z"⟩, 13) := ⟨⟨by decide +kernel, by decide +kernel⟩, List.mem_of_getElem? (i := 767) (by decide +kernel), List.mem_of_getElem? (i := 870) (by decide +kernel), List.mem_of_getElem? (i := 871) (by decide +kernel)⟩
def lw_privs_4 : List (MethodName × Nat) := [(⟨"LambdaShelf$Abstracter", "putAbstracted", "()V"⟩, 6), (⟨"LambdaShelf$Abstracter", "isMet", "(II)Z"⟩, 6), (⟨"LambdaShelf$Abstracter", "putLowered", "(II)V"⟩, 6), (⟨"LambdaShelf$Abstracter", "hold", "(I)Z"⟩, 6), (⟨"LambdaShelf", "putTrial", "(LLambdaShelf$Code;)V"⟩, 13), (⟨"LambdaShelf$Typer", "any", "()I"⟩, 13), (⟨"LambdaShelf$Typer", "arrow", "(II)I"⟩, 13), (⟨"LambdaShelf$Typer", "await", "(I)V"⟩, 13), (⟨"LambdaShelf$Typer", "nextWaiting", "()I"⟩, 13), (⟨"LambdaShelf$Typer", "typeNode", "(III)V"⟩, 13), (⟨"LambdaShelf$Typer", "typeApply", "(I)V"⟩, 13), (⟨"LambdaShelf$Typer", "typeOfLambda", "(I)I"⟩, 13), (⟨"LambdaShelf$Typer", "joinAll", "(II)V"⟩, 13), (⟨"LambdaShelf$Typer", "join", "(III)I"⟩, 13), (⟨"LambdaShelf$Typer", "rootOf", "(I)I"⟩, 13), (⟨"LambdaShelf$Typer", "isArrow", "(I)Z"⟩, 13)]
theorem lw_r4 : ∀ q ∈ lw_privs_4, lw_okq q := List.forall_mem_cons.mpr ⟨lw_p48, List.forall_mem_cons.mpr ⟨lw_p49, List.forall_mem_cons.mpr ⟨lw_p50, List.forall_mem_cons.mpr ⟨lw_p51, List.forall_mem_cons.mpr ⟨lw_p52, List.forall_mem_cons.mpr ⟨lw_p53, List.forall_mem_cons.mpr ⟨lw_p54, List.forall_mem_cons.mpr ⟨lw_p55, List.forall_mem_cons.mpr ⟨lw_p56, List.forall_mem_cons.mpr ⟨lw_p57, List.forall_mem_cons.mpr ⟨lw_p58, List.forall_mem_cons.mpr ⟨lw_p59, List.forall_mem_cons.mpr ⟨lw_p60, List.forall_mem_cons.mpr ⟨lw_p61, List.forall_mem_cons.mpr ⟨lw_p62, List.forall_mem_cons.mpr ⟨lw_p63, fun _ h => absurd h List.not_mem_nil⟩⟩⟩⟩⟩⟩⟩⟩⟩⟩⟩⟩⟩⟩⟩⟩
theorem lw_p64 : lw_okq (⟨"LambdaShelf$Typer", "enqueue", "(II)I"⟩, 13) := ⟨⟨by decide +kernel, by decide +kernel⟩, List.mem_of_getElem? (i := 767) (by decide +kernel), List.mem_of_getElem? (i := 874) (by decide +kernel), List.mem_of_getElem? (i := 875) (by decide +kernel)⟩
theorem lw_p65 : lw_okq (⟨"LambdaShelf$Typer", "typeOfLetter", "(I)I"⟩, 13) := ⟨⟨by decide +kernel, by decide +kernel⟩, List.mem_of_getElem? (i := 767) (by decide +kernel), List.mem_of_getElem? (i := 879) (by decide +kernel), List.mem_of_getElem? (i := 880) (by decide +kernel)⟩
theorem lw_p66 : lw_okq (⟨"LambdaShelf$Typer", "typeOfS", "(III)I"⟩, 13) := ⟨⟨by decide +kernel, by decide +kernel⟩, List.mem_of_getElem? (i := 767) (by decide +kernel), List.mem_of_getElem? (i := 883) (by decide +kernel), List.mem_of_getElem? (i := 884) (by decide +kernel)⟩
theorem lw_p67 : lw_okq (⟨"LambdaShelf$Typer", "typeOfK", "(II)I"⟩, 13) := ⟨⟨by decide +kernel, by decide +kernel⟩, List.mem_of_getElem? (i := 767) (by decide +kernel), List.mem_of_getElem? (i := 887) (by decide +kernel), List.mem_of_getElem? (i := 888) (by decide +kernel)⟩
theorem lw_p68 : lw_okq (⟨"LambdaShelf$Typer", "typeOfI", "(I)I"⟩, 13) := ⟨⟨by decide +kernel, by decide +kernel⟩, List.mem_of_getElem? (i := 767) (by decide +kernel), List.mem_of_getElem? (i := 891) (by decide +kernel), List.mem_of_getElem? (i := 892) (by decide +kernel)⟩
theorem lw_p69 : lw_okq (⟨"LambdaShelf$Typer", "hasCircle", "()Z"⟩, 13) := ⟨⟨by decide +kernel, by decide +kernel⟩, List.mem_of_getElem? (i := 767) (by decide +kernel), List.mem_of_getElem? (i := 895) (by decide +kernel), List.mem_of_getElem? (i := 896) (by decide +kernel)⟩
theorem lw_p70 : lw_okq (⟨"LambdaShelf$Typer", "countSides", "()V"⟩, 13) := ⟨⟨by decide +kernel, by decide +kernel⟩, List.mem_of_getElem? (i := 767) (by decide +kernel), List.mem_of_getElem? (i := 899) (by decide +kernel), List.mem_of_getElem? (i := 900) (by decide +kernel)⟩
theorem lw_p71 : lw_okq (⟨"LambdaShelf$Typer", "clearMarks", "()V"⟩, 13) := ⟨⟨by decide +kernel, by decide +kernel⟩, List.mem_of_getElem? (i := 767) (by decide +kernel), List.mem_of_getElem? (i := 903) (by decide +kernel), List.mem_of_getElem? (i := 904) (by decide +kernel)⟩
theorem lw_p72 : lw_okq (⟨"LambdaShelf$Typer", "countSide", "(I)V"⟩, 13) := ⟨⟨by decide +kernel, by decide +kernel⟩, List.mem_of_getElem? (i := 767) (by decide +kernel), List.mem_of_getElem? (i := 907) (by decide +kernel), List.mem_of_getElem? (i := 908) (by decide +kernel)⟩
theorem lw_p73 : lw_okq (⟨"LambdaShelf$Typer", "release", "(II)I"⟩, 13) := ⟨⟨by decide +kernel, by decide +kernel⟩, List.mem_of_getElem? (i := 767) (by decide +kernel), List.mem_of_getElem? (i := 911) (by decide +kernel), List.mem_of_getElem? (i := 912) (by decide +kernel)⟩
theorem lw_p74 : lw_okq (⟨"LambdaShelf$Typer", "tellType", "(I)V"⟩, 13) := ⟨⟨by decide +kernel, by decide +kernel⟩, List.mem_of_getElem? (i := 767) (by decide +kernel), List.mem_of_getElem? (i := 915) (by decide +kernel), List.mem_of_getElem? (i := 916) (by decide +kernel)⟩
theorem lw_p75 : lw_okq (⟨"LambdaShelf", "allNodes", "()I"⟩, 13) := ⟨⟨by decide +kernel, by decide +kernel⟩, List.mem_of_getElem? (i := 19) (by decide +kernel), List.mem_of_getElem? (i := 947) (by decide +kernel), List.mem_of_getElem? (i := 948) (by decide +kernel)⟩
theorem lw_p76 : lw_okq (⟨"LambdaShelfModel", "put", "(I)V"⟩, 49) := ⟨⟨by decide +kernel, by decide +kernel⟩, List.mem_of_getElem? (i := 951) (by decide +kernel), List.mem_of_getElem? (i := 1111) (by decide +kernel), List.mem_of_getElem? (i := 1112) (by decide +kernel)⟩
theorem lw_p77 : lw_okq (⟨"LambdaShelfModel", "readTerm", "()V"⟩, 49) := ⟨⟨by decide +kernel, by decide +kernel⟩, List.mem_of_getElem? (i := 951) (by decide +kernel), List.mem_of_getElem? (i := 1126) (by decide +kernel), List.mem_of_getElem? (i := 1127) (by decide +kernel)⟩
theorem lw_p78 : lw_okq (⟨"LambdaShelfModel", "level", "(I)V"⟩, 49) := ⟨⟨by decide +kernel, by decide +kernel⟩, List.mem_of_getElem? (i := 951) (by decide +kernel), List.mem_of_getElem? (i := 1130) (by decide +kernel), List.mem_of_getElem? (i := 1131) (by decide +kernel)⟩
theorem lw_p79 : lw_okq (⟨"LambdaShelfModel", "next", "()V"⟩, 49) := ⟨⟨by decide +kernel, by decide +kernel⟩, List.mem_of_getElem? (i := 951) (by decide +kernel), List.mem_of_getElem? (i := 1134) (by decide +kernel), List.mem_of_getElem? (i := 1135) (by decide +kernel)⟩
def lw_privs_5 : List (MethodName × Nat) := [(⟨"LambdaShelf$Typer", "enqueue", "(II)I"⟩, 13), (⟨"LambdaShelf$Typer", "typeOfLetter", "(I)I"⟩, 13), (⟨"LambdaShelf$Typer", "typeOfS", "(III)I"⟩, 13), (⟨"LambdaShelf$Typer", "typeOfK", "(II)I"⟩, 13), (⟨"LambdaShelf$Typer", "typeOfI", "(I)I"⟩, 13), (⟨"LambdaShelf$Typer", "hasCircle", "()Z"⟩, 13), (⟨"LambdaShelf$Typer", "countSides", "()V"⟩, 13), (⟨"LambdaShelf$Typer", "clearMarks", "()V"⟩, 13), (⟨"LambdaShelf$Typer", "countSide", "(I)V"⟩, 13), (⟨"LambdaShelf$Typer", "release", "(II)I"⟩, 13), (⟨"LambdaShelf$Typer", "tellType", "(I)V"⟩, 13), (⟨"LambdaShelf", "allNodes", "()I"⟩, 13), (⟨"LambdaShelfModel", "put", "(I)V"⟩, 49), (⟨"LambdaShelfModel", "readTerm", "()V"⟩, 49), (⟨"LambdaShelfModel", "level", "(I)V"⟩, 49), (⟨"LambdaShelfModel", "next", "()V"⟩, 49)]
theorem lw_r5 : ∀ q ∈ lw_privs_5, lw_okq q := List.forall_mem_cons.mpr ⟨lw_p64, List.forall_mem_cons.mpr ⟨lw_p65, List.forall_mem_cons.mpr ⟨lw_p66, List.forall_mem_cons.mpr ⟨lw_p67, List.forall_mem_cons.mpr ⟨lw_p68, List.forall_mem_cons.mpr ⟨lw_p69, List.forall_mem_cons.mpr ⟨lw_p70, List.forall_mem_cons.mpr ⟨lw_p71, List.forall_mem_cons.mpr ⟨lw_p72, List.forall_mem_cons.mpr ⟨lw_p73, List.forall_mem_cons.mpr ⟨lw_p74, List.forall_mem_cons.mpr ⟨lw_p75, List.forall_mem_cons.mpr ⟨lw_p76, List.forall_mem_cons.mpr ⟨lw_p77, List.forall_mem_cons.mpr ⟨lw_p78, List.forall_mem_cons.mpr ⟨lw_p79, fun _ h => absurd h List.not_mem_nil⟩⟩⟩⟩⟩⟩⟩⟩⟩⟩⟩⟩⟩⟩⟩⟩
theorem lw_p80 : lw_okq (⟨"LambdaShelfModel", "look", "()I"⟩, 49) := ⟨⟨by decide +kernel, by decide +kernel⟩, List.mem_of_getElem? (i := 951) (by decide +kernel), List.mem_of_getElem? (i := 1138) (by decide +kernel), List.mem_of_getElem? (i := 1139) (by decide +kernel)⟩
theorem lw_p81 : lw_okq (⟨"LambdaShelfModel", "fails", "(II)V"⟩, 49) := ⟨⟨by decide +kernel, by decide +kernel⟩, List.mem_of_getElem? (i := 951) (by decide +kernel), List.mem_of_getElem? (i := 1146) (by decide +kernel), List.mem_of_getElem? (i := 1147) (by decide +kernel)⟩
theorem lw_p82 : lw_okq (⟨"LambdaShelfModel", "readName", "()V"⟩, 49) := ⟨⟨by decide +kernel, by decide +kernel⟩, List.mem_of_getElem? (i := 951) (by decide +kernel), List.mem_of_getElem? (i := 1157) (by decide +kernel), List.mem_of_getElem? (i := 1158) (by decide +kernel)⟩
theorem lw_p83 : lw_okq (⟨"LambdaShelfModel", "part", "()V"⟩, 49) := ⟨⟨by decide +kernel, by decide +kernel⟩, List.mem_of_getElem? (i := 951) (by decide +kernel), List.mem_of_getElem? (i := 1161) (by decide +kernel), List.mem_of_getElem? (i := 1162) (by decide +kernel)⟩
theorem lw_p84 : lw_okq (⟨"LambdaShelfModel", "lay", "(I)V"⟩, 49) := ⟨⟨by decide +kernel, by decide +kernel⟩, List.mem_of_getElem? (i := 951) (by decide +kernel), List.mem_of_getElem? (i := 1165) (by decide +kernel), List.mem_of_getElem? (i := 1166) (by decide +kernel)⟩
theorem lw_p85 : lw_okq (⟨"LambdaShelfModel", "readNumber", "()V"⟩, 49) := ⟨⟨by decide +kernel, by decide +kernel⟩, List.mem_of_getElem? (i := 951) (by decide +kernel), List.mem_of_getElem? (i := 1169) (by decide +kernel), List.mem_of_getElem? (i := 1170) (by decide +kernel)⟩
theorem lw_p86 : lw_okq (⟨"LambdaShelfModel", "isSign", "(I)Z"⟩, 49) := ⟨⟨by decide +kernel, by decide +kernel⟩, List.mem_of_getElem? (i := 951) (by decide +kernel), List.mem_of_getElem? (i := 1173) (by decide +kernel), List.mem_of_getElem? (i := 1174) (by decide +kernel)⟩
theorem lw_p87 : lw_okq (⟨"LambdaShelfModel", "readLambda", "()V"⟩, 49) := ⟨⟨by decide +kernel, by decide +kernel⟩, List.mem_of_getElem? (i := 951) (by decide +kernel), List.mem_of_getElem? (i := 1177) (by decide +kernel), List.mem_of_getElem? (i := 1178) (by decide +kernel)⟩
theorem lw_p88 : lw_okq (⟨"LambdaShelfModel", "closes", "()V"⟩, 49) := ⟨⟨by decide +kernel, by decide +kernel⟩, List.mem_of_getElem? (i := 951) (by decide +kernel), List.mem_of_getElem? (i := 1181) (by decide +kernel), List.mem_of_getElem? (i := 1182) (by decide +kernel)⟩
theorem lw_p89 : lw_okq (⟨"LambdaShelfModel", "keep", "(I)V"⟩, 49) := ⟨⟨by decide +kernel, by decide +kernel⟩, List.mem_of_getElem? (i := 951) (by decide +kernel), List.mem_of_getElem? (i := 1185) (by decide +kernel), List.mem_of_getElem? (i := 1186) (by decide +kernel)⟩
theorem lw_p90 : lw_okq (⟨"LambdaShelfModel", "isTerm", "(I)Z"⟩, 49) := ⟨⟨by decide +kernel, by decide +kernel⟩, List.mem_of_getElem? (i := 951) (by decide +kernel), List.mem_of_getElem? (i := 1197) (by decide +kernel), List.mem_of_getElem? (i := 1198) (by decide +kernel)⟩
theorem lw_p91 : lw_okq (⟨"LambdaShelfModel", "take", "(I)V"⟩, 49) := ⟨⟨by decide +kernel, by decide +kernel⟩, List.mem_of_getElem? (i := 951) (by decide +kernel), List.mem_of_getElem? (i := 1209) (by decide +kernel), List.mem_of_getElem? (i := 1210) (by decide +kernel)⟩
theorem lw_p92 : lw_okq (⟨"LambdaShelfModel", "sayTerm", "()V"⟩, 49) := ⟨⟨by decide +kernel, by decide +kernel⟩, List.mem_of_getElem? (i := 951) (by decide +kernel), List.mem_of_getElem? (i := 1213) (by decide +kernel), List.mem_of_getElem? (i := 1214) (by decide +kernel)⟩
theorem lw_p93 : lw_okq (⟨"LambdaShelfModel", "endOf", "(I)I"⟩, 49) := ⟨⟨by decide +kernel, by decide +kernel⟩, List.mem_of_getElem? (i := 951) (by decide +kernel), List.mem_of_getElem? (i := 1217) (by decide +kernel), List.mem_of_getElem? (i := 1218) (by decide +kernel)⟩
theorem lw_p94 : lw_okq (⟨"LambdaShelfModel", "depths", "(I)V"⟩, 49) := ⟨⟨by decide +kernel, by decide +kernel⟩, List.mem_of_getElem? (i := 951) (by decide +kernel), List.mem_of_getElem? (i := 1221) (by decide +kernel), List.mem_of_getElem? (i := 1222) (by decide +kernel)⟩
theorem lw_p95 : lw_okq (⟨"LambdaShelfModel", "say", "(I)V"⟩, 49) := ⟨⟨by decide +kernel, by decide +kernel⟩, List.mem_of_getElem? (i := 951) (by decide +kernel), List.mem_of_getElem? (i := 1225) (by decide +kernel), List.mem_of_getElem? (i := 1226) (by decide +kernel)⟩
def lw_privs_6 : List (MethodName × Nat) := [(⟨"LambdaShelfModel", "look", "()I"⟩, 49), (⟨"LambdaShelfModel", "fails", "(II)V"⟩, 49), (⟨"LambdaShelfModel", "readName", "()V"⟩, 49), (⟨"LambdaShelfModel", "part", "()V"⟩, 49), (⟨"LambdaShelfModel", "lay", "(I)V"⟩, 49), (⟨"LambdaShelfModel", "readNumber", "()V"⟩, 49), (⟨"LambdaShelfModel", "isSign", "(I)Z"⟩, 49), (⟨"LambdaShelfModel", "readLambda", "()V"⟩, 49), (⟨"LambdaShelfModel", "closes", "()V"⟩, 49), (⟨"LambdaShelfModel", "keep", "(I)V"⟩, 49), (⟨"LambdaShelfModel", "isTerm", "(I)Z"⟩, 49), (⟨"LambdaShelfModel", "take", "(I)V"⟩, 49), (⟨"LambdaShelfModel", "sayTerm", "()V"⟩, 49), (⟨"LambdaShelfModel", "endOf", "(I)I"⟩, 49), (⟨"LambdaShelfModel", "depths", "(I)V"⟩, 49), (⟨"LambdaShelfModel", "say", "(I)V"⟩, 49)]
theorem lw_r6 : ∀ q ∈ lw_privs_6, lw_okq q := List.forall_mem_cons.mpr ⟨lw_p80, List.forall_mem_cons.mpr ⟨lw_p81, List.forall_mem_cons.mpr ⟨lw_p82, List.forall_mem_cons.mpr ⟨lw_p83, List.forall_mem_cons.mpr ⟨lw_p84, List.forall_mem_cons.mpr ⟨lw_p85, List.forall_mem_cons.mpr ⟨lw_p86, List.forall_mem_cons.mpr ⟨lw_p87, List.forall_mem_cons.mpr ⟨lw_p88, List.forall_mem_cons.mpr ⟨lw_p89, List.forall_mem_cons.mpr ⟨lw_p90, List.forall_mem_cons.mpr ⟨lw_p91, List.forall_mem_cons.mpr ⟨lw_p92, List.forall_mem_cons.mpr ⟨lw_p93, List.forall_mem_cons.mpr ⟨lw_p94, List.forall_mem_cons.mpr ⟨lw_p95, fun _ h => absurd h List.not_mem_nil⟩⟩⟩⟩⟩⟩⟩⟩⟩⟩⟩⟩⟩⟩⟩⟩
theorem lw_p96 : lw_okq (⟨"LambdaShelfModel", "sayName", "(I)V"⟩, 49) := ⟨⟨by decide +kernel, by decide +kernel⟩, List.mem_of_getElem? (i := 951) (by decide +kernel), List.mem_of_getElem? (i := 1229) (by decide +kernel), List.mem_of_getElem? (i := 1230) (by decide +kernel)⟩
theorem lw_p97 : lw_okq (⟨"LambdaShelfModel", "stepped", "(I)I"⟩, 49) := ⟨⟨by decide +kernel, by decide +kernel⟩, List.mem_of_getElem? (i := 951) (by decide +kernel), List.mem_of_getElem? (i := 1250) (by decide +kernel), List.mem_of_getElem? (i := 1251) (by decide +kernel)⟩
theorem lw_p98 : lw_okq (⟨"LambdaShelfModel", "nextRedex", "(I)I"⟩, 49) := ⟨⟨by decide +kernel, by decide +kernel⟩, List.mem_of_getElem? (i := 951) (by decide +kernel), List.mem_of_getElem? (i := 1254) (by decide +kernel), List.mem_of_getElem? (i := 1255) (by decide +kernel)⟩
theorem lw_p99 : lw_okq (⟨"LambdaShelfModel", "isRedex", "(I)Z"⟩, 49) := ⟨⟨by decide +kernel, by decide +kernel⟩, List.mem_of_getElem? (i := 951) (by decide +kernel), List.mem_of_getElem? (i := 1258) (by decide +kernel), List.mem_of_getElem? (i := 1259) (by decide +kernel)⟩
theorem lw_p100 : lw_okq (⟨"LambdaShelfModel", "isThin", "(I)Z"⟩, 49) := ⟨⟨by decide +kernel, by decide +kernel⟩, List.mem_of_getElem? (i := 951) (by decide +kernel), List.mem_of_getElem? (i := 1262) (by decide +kernel), List.mem_of_getElem? (i := 1263) (by decide +kernel)⟩
theorem lw_p101 : lw_okq (⟨"LambdaShelfModel", "has", "(I)Z"⟩, 49) := ⟨⟨by decide +kernel, by decide +kernel⟩, List.mem_of_getElem? (i := 951) (by decide +kernel), List.mem_of_getElem? (i := 1266) (by decide +kernel), List.mem_of_getElem? (i := 1267) (by decide +kernel)⟩
theorem lw_p102 : lw_okq (⟨"LambdaShelfModel", "hasWithin", "(I)Z"⟩, 49) := ⟨⟨by decide +kernel, by decide +kernel⟩, List.mem_of_getElem? (i := 951) (by decide +kernel), List.mem_of_getElem? (i := 1270) (by decide +kernel), List.mem_of_getElem? (i := 1271) (by decide +kernel)⟩
theorem lw_p103 : lw_okq (⟨"LambdaShelfModel", "addAll", "(II)V"⟩, 49) := ⟨⟨by decide +kernel, by decide +kernel⟩, List.mem_of_getElem? (i := 951) (by decide +kernel), List.mem_of_getElem? (i := 1274) (by decide +kernel), List.mem_of_getElem? (i := 1275) (by decide +kernel)⟩
theorem lw_p104 : lw_okq (⟨"LambdaShelfModel", "add", "(I)V"⟩, 49) := ⟨⟨by decide +kernel, by decide +kernel⟩, List.mem_of_getElem? (i := 951) (by decide +kernel), List.mem_of_getElem? (i := 1278) (by decide +kernel), List.mem_of_getElem? (i := 1279) (by decide +kernel)⟩
theorem lw_p105 : lw_okq (⟨"LambdaShelfModel", "becomes", "(II)V"⟩, 49) := ⟨⟨by decide +kernel, by decide +kernel⟩, List.mem_of_getElem? (i := 951) (by decide +kernel), List.mem_of_getElem? (i := 1282) (by decide +kernel), List.mem_of_getElem? (i := 1283) (by decide +kernel)⟩
theorem lw_p106 : lw_okq (⟨"LambdaShelfModel", "addMore", "(III)V"⟩, 49) := ⟨⟨by decide +kernel, by decide +kernel⟩, List.mem_of_getElem? (i := 951) (by decide +kernel), List.mem_of_getElem? (i := 1286) (by decide +kernel), List.mem_of_getElem? (i := 1287) (by decide +kernel)⟩
theorem lw_p107 : lw_okq (⟨"LambdaShelfModel", "beta", "(I)V"⟩, 49) := ⟨⟨by decide +kernel, by decide +kernel⟩, List.mem_of_getElem? (i := 951) (by decide +kernel), List.mem_of_getElem? (i := 1290) (by decide +kernel), List.mem_of_getElem? (i := 1291) (by decide +kernel)⟩
theorem lw_p108 : lw_okq (⟨"LambdaShelfModel", "count0", "()I"⟩, 49) := ⟨⟨by decide +kernel, by decide +kernel⟩, List.mem_of_getElem? (i := 951) (by decide +kernel), List.mem_of_getElem? (i := 1311) (by decide +kernel), List.mem_of_getElem? (i := 1312) (by decide +kernel)⟩
theorem lw_p109 : lw_okq (⟨"LambdaShelfModel", "isAbstracted", "()Z"⟩, 49) := ⟨⟨by decide +kernel, by decide +kernel⟩, List.mem_of_getElem? (i := 951) (by decide +kernel), List.mem_of_getElem? (i := 1319) (by decide +kernel), List.mem_of_getElem? (i := 1320) (by decide +kernel)⟩
theorem lw_p110 : lw_okq (⟨"LambdaShelfModel", "abstracts", "(I)V"⟩, 49) := ⟨⟨by decide +kernel, by decide +kernel⟩, List.mem_of_getElem? (i := 951) (by decide +kernel), List.mem_of_getElem? (i := 1323) (by decide +kernel), List.mem_of_getElem? (i := 1324) (by decide +kernel)⟩
theorem lw_p111 : lw_okq (⟨"LambdaShelfModel", "hasNaught", "(II)Z"⟩, 49) := ⟨⟨by decide +kernel, by decide +kernel⟩, List.mem_of_getElem? (i := 951) (by decide +kernel), List.mem_of_getElem? (i := 1327) (by decide +kernel), List.mem_of_getElem? (i := 1328) (by decide +kernel)⟩
def lw_privs_7 : List (MethodName × Nat) := [(⟨"LambdaShelfModel", "sayName", "(I)V"⟩, 49), (⟨"LambdaShelfModel", "stepped", "(I)I"⟩, 49), (⟨"LambdaShelfModel", "nextRedex", "(I)I"⟩, 49), (⟨"LambdaShelfModel", "isRedex", "(I)Z"⟩, 49), (⟨"LambdaShelfModel", "isThin", "(I)Z"⟩, 49), (⟨"LambdaShelfModel", "has", "(I)Z"⟩, 49), (⟨"LambdaShelfModel", "hasWithin", "(I)Z"⟩, 49), (⟨"LambdaShelfModel", "addAll", "(II)V"⟩, 49), (⟨"LambdaShelfModel", "add", "(I)V"⟩, 49), (⟨"LambdaShelfModel", "becomes", "(II)V"⟩, 49), (⟨"LambdaShelfModel", "addMore", "(III)V"⟩, 49), (⟨"LambdaShelfModel", "beta", "(I)V"⟩, 49), (⟨"LambdaShelfModel", "count0", "()I"⟩, 49), (⟨"LambdaShelfModel", "isAbstracted", "()Z"⟩, 49), (⟨"LambdaShelfModel", "abstracts", "(I)V"⟩, 49), (⟨"LambdaShelfModel", "hasNaught", "(II)Z"⟩, 49)]
theorem lw_r7 : ∀ q ∈ lw_privs_7, lw_okq q := List.forall_mem_cons.mpr ⟨lw_p96, List.forall_mem_cons.mpr ⟨lw_p97, List.forall_mem_cons.mpr ⟨lw_p98, List.forall_mem_cons.mpr ⟨lw_p99, List.forall_mem_cons.mpr ⟨lw_p100, List.forall_mem_cons.mpr ⟨lw_p101, List.forall_mem_cons.mpr ⟨lw_p102, List.forall_mem_cons.mpr ⟨lw_p103, List.forall_mem_cons.mpr ⟨lw_p104, List.forall_mem_cons.mpr ⟨lw_p105, List.forall_mem_cons.mpr ⟨lw_p106, List.forall_mem_cons.mpr ⟨lw_p107, List.forall_mem_cons.mpr ⟨lw_p108, List.forall_mem_cons.mpr ⟨lw_p109, List.forall_mem_cons.mpr ⟨lw_p110, List.forall_mem_cons.mpr ⟨lw_p111, fun _ h => absurd h List.not_mem_nil⟩⟩⟩⟩⟩⟩⟩⟩⟩⟩⟩⟩⟩⟩⟩⟩
theorem lw_p112 : lw_okq (⟨"LambdaShelfModel", "addLess", "(II)V"⟩, 49) := ⟨⟨by decide +kernel, by decide +kernel⟩, List.mem_of_getElem? (i := 951) (by decide +kernel), List.mem_of_getElem? (i := 1331) (by decide +kernel), List.mem_of_getElem? (i := 1332) (by decide +kernel)⟩
theorem lw_p113 : lw_okq (⟨"LambdaShelfModel", "numberNow", "()I"⟩, 49) := ⟨⟨by decide +kernel, by decide +kernel⟩, List.mem_of_getElem? (i := 951) (by decide +kernel), List.mem_of_getElem? (i := 1339) (by decide +kernel), List.mem_of_getElem? (i := 1340) (by decide +kernel)⟩
theorem lw_p114 : lw_okq (⟨"LambdaShelfModel", "infers", "()I"⟩, 49) := ⟨⟨by decide +kernel, by decide +kernel⟩, List.mem_of_getElem? (i := 951) (by decide +kernel), List.mem_of_getElem? (i := 1351) (by decide +kernel), List.mem_of_getElem? (i := 1352) (by decide +kernel)⟩
theorem lw_p115 : lw_okq (⟨"LambdaShelfModel", "any", "()I"⟩, 49) := ⟨⟨by decide +kernel, by decide +kernel⟩, List.mem_of_getElem? (i := 951) (by decide +kernel), List.mem_of_getElem? (i := 1355) (by decide +kernel), List.mem_of_getElem? (i := 1356) (by decide +kernel)⟩
theorem lw_p116 : lw_okq (⟨"LambdaShelfModel", "arrow", "(II)I"⟩, 49) := ⟨⟨by decide +kernel, by decide +kernel⟩, List.mem_of_getElem? (i := 951) (by decide +kernel), List.mem_of_getElem? (i := 1359) (by decide +kernel), List.mem_of_getElem? (i := 1360) (by decide +kernel)⟩
theorem lw_p117 : lw_okq (⟨"LambdaShelfModel", "unite", "(II)V"⟩, 49) := ⟨⟨by decide +kernel, by decide +kernel⟩, List.mem_of_getElem? (i := 951) (by decide +kernel), List.mem_of_getElem? (i := 1363) (by decide +kernel), List.mem_of_getElem? (i := 1364) (by decide +kernel)⟩
theorem lw_p118 : lw_okq (⟨"LambdaShelfModel", "root", "(I)I"⟩, 49) := ⟨⟨by decide +kernel, by decide +kernel⟩, List.mem_of_getElem? (i := 951) (by decide +kernel), List.mem_of_getElem? (i := 1367) (by decide +kernel), List.mem_of_getElem? (i := 1368) (by decide +kernel)⟩
theorem lw_p119 : lw_okq (⟨"LambdaShelfModel", "typeOfLetter", "(II)I"⟩, 49) := ⟨⟨by decide +kernel, by decide +kernel⟩, List.mem_of_getElem? (i := 951) (by decide +kernel), List.mem_of_getElem? (i := 1371) (by decide +kernel), List.mem_of_getElem? (i := 1372) (by decide +kernel)⟩
theorem lw_p120 : lw_okq (⟨"LambdaShelfModel", "isFinite", "()Z"⟩, 49) := ⟨⟨by decide +kernel, by decide +kernel⟩, List.mem_of_getElem? (i := 951) (by decide +kernel), List.mem_of_getElem? (i := 1375) (by decide +kernel), List.mem_of_getElem? (i := 1376) (by decide +kernel)⟩
theorem lw_p121 : lw_okq (⟨"LambdaShelfModel", "lays", "(I)I"⟩, 49) := ⟨⟨by decide +kernel, by decide +kernel⟩, List.mem_of_getElem? (i := 951) (by decide +kernel), List.mem_of_getElem? (i := 1379) (by decide +kernel), List.mem_of_getElem? (i := 1380) (by decide +kernel)⟩
def lw_privs_8 : List (MethodName × Nat) := [(⟨"LambdaShelfModel", "addLess", "(II)V"⟩, 49), (⟨"LambdaShelfModel", "numberNow", "()I"⟩, 49), (⟨"LambdaShelfModel", "infers", "()I"⟩, 49), (⟨"LambdaShelfModel", "any", "()I"⟩, 49), (⟨"LambdaShelfModel", "arrow", "(II)I"⟩, 49), (⟨"LambdaShelfModel", "unite", "(II)V"⟩, 49), (⟨"LambdaShelfModel", "root", "(I)I"⟩, 49), (⟨"LambdaShelfModel", "typeOfLetter", "(II)I"⟩, 49), (⟨"LambdaShelfModel", "isFinite", "()Z"⟩, 49), (⟨"LambdaShelfModel", "lays", "(I)I"⟩, 49)]
theorem lw_r8 : ∀ q ∈ lw_privs_8, lw_okq q := List.forall_mem_cons.mpr ⟨lw_p112, List.forall_mem_cons.mpr ⟨lw_p113, List.forall_mem_cons.mpr ⟨lw_p114, List.forall_mem_cons.mpr ⟨lw_p115, List.forall_mem_cons.mpr ⟨lw_p116, List.forall_mem_cons.mpr ⟨lw_p117, List.forall_mem_cons.mpr ⟨lw_p118, List.forall_mem_cons.mpr ⟨lw_p119, List.forall_mem_cons.mpr ⟨lw_p120, List.forall_mem_cons.mpr ⟨lw_p121, fun _ h => absurd h List.not_mem_nil⟩⟩⟩⟩⟩⟩⟩⟩⟩⟩
def lw_privs : List (MethodName × Nat) := lw_privs_1 ++ (lw_privs_2 ++ (lw_privs_3 ++ (lw_privs_4 ++ (lw_privs_5 ++ (lw_privs_6 ++ (lw_privs_7 ++ (lw_privs_8)))))))
def lw_tbl : List Cond := k2_sels lw_privs ++ tables_1
theorem lw_privs_ok : ∀ q ∈ lw_privs, lw_okq q := by
  show ∀ q ∈ lw_privs_1 ++ (lw_privs_2 ++ (lw_privs_3 ++ (lw_privs_4 ++ (lw_privs_5 ++ (lw_privs_6 ++ (lw_privs_7 ++ (lw_privs_8))))))), lw_okq q
  exact List.forall_mem_append.mpr ⟨lw_r1, List.forall_mem_append.mpr ⟨lw_r2, List.forall_mem_append.mpr ⟨lw_r3, List.forall_mem_append.mpr ⟨lw_r4, List.forall_mem_append.mpr ⟨lw_r5, List.forall_mem_append.mpr ⟨lw_r6, List.forall_mem_append.mpr ⟨lw_r7, lw_r8⟩⟩⟩⟩⟩⟩⟩
end
section
/-! THE PURE MACHINE, 1: values, locals, operand stacks. A pure reference is a place in a list of cells; retAddr stands for the law's script. pm_rv and its like: what the machine has for it, by the list ad of addresses. -/
abbrev pm_L : Type := List (Nat × Value)
def pm_get (lv : pm_L) (i : Nat) : Option Value := match lv with
  | [] => none
  | q :: r => if q.1 = i then some q.2 else pm_get r i
def pm_set (lv : pm_L) (i : Nat) (v : Value) : pm_L := (i, v) :: lv.filter (fun q => !(q.1 == i) && !(q.1 + 1 == i && q.2.category == 2))
def pm_set2 (lv : pm_L) (i : Nat) (v : Value) : pm_L := (i, v) :: lv.filter (fun q => !(q.1 == i) && (!(q.1 == i + 1) && !(q.1 + 1 == i && q.2.category == 2)))
def pm_rv (bS : Nat) (ad : List Nat) (v w : Value) : Prop := match v with
  | .ref k => ∃ a, ad[k]? = some a ∧ w = .ref a
  | .retAddr _ => w = .ref bS
  | .int x => w = .int x
  | .long x => w = .long x
  | .null => w = .null
  | _ => False
def pm_rs (bS : Nat) (ad : List Nat) : List Value → List Value → Prop
  | [], [] => True
  | v :: r, w :: r' => pm_rv bS ad v w ∧ pm_rs bS ad r r'
  | _, _ => False
def pm_rl (bS : Nat) (ad : List Nat) : pm_L → pm_L → Prop
  | [], [] => True
  | q :: r, q' :: r' => q.1 = q'.1 ∧ pm_rv bS ad q.2 q'.2 ∧ pm_rl bS ad r r'
  | _, _ => False
theorem pm_at_app {ad ad2 : List Nat} {k a : Nat} (h : ad[k]? = some a) : (ad ++ ad2)[k]? = some a := by
  rw [List.getElem?_append_left (List.getElem?_eq_some_iff.mp h).1]; exact h
theorem pm_rv.mono {bS : Nat} {ad ad2 : List Nat} {v w : Value} (h : pm_rv bS ad v w) : pm_rv bS (ad ++ ad2) v w := by
  cases v with
  | ref k => obtain ⟨a, h1, h2⟩ := h; exact ⟨a, pm_at_app h1, h2⟩
  | _ => exact h
theorem pm_rs.mono {bS : Nat} {ad ad2 : List Nat} : ∀ {st st' : List Value}, pm_rs bS ad st st' → pm_rs bS (ad ++ ad2) st st'
  | [], [], _ => trivial
  | _ :: _, _ :: _, h => ⟨h.1.mono, pm_rs.mono h.2⟩
  | [], _ :: _, h => h.elim
  | _ :: _, [], h => h.elim
theorem pm_rl.mono {bS : Nat} {ad ad2 : List Nat} : ∀ {st st' : pm_L}, pm_rl bS ad st st' → pm_rl bS (ad ++ ad2) st st'
  | [], [], _ => trivial
  | _ :: _, _ :: _, h => ⟨h.1, h.2.1.mono, pm_rl.mono h.2.2⟩
  | [], _ :: _, h => h.elim
  | _ :: _, [], h => h.elim
theorem pm_rv.cat {bS : Nat} {ad : List Nat} {v w : Value} (h : pm_rv bS ad v w) : w.category = v.category := by
  cases v with
  | ref k => obtain ⟨a, -, h2⟩ := h; rw [h2]; rfl
  | retAddr n => rw [show w = .ref bS from h]; rfl
  | int x => rw [show w = .int x from h]
  | long x => rw [show w = .long x from h]
  | null => rw [show w = .null from h]
  | float x => exact h.elim
  | double x => exact h.elim
theorem pm_rs_cons {bS : Nat} {ad : List Nat} {v : Value} {r stA : List Value} (h : pm_rs bS ad (v :: r) stA) : ∃ w r', stA = w :: r' ∧ pm_rv bS ad v w ∧ pm_rs bS ad r r' := by
  cases stA with
  | nil => exact h.elim
  | cons w r' => exact ⟨w, r', rfl, h.1, h.2⟩
theorem pm_rs_nil {bS : Nat} {ad : List Nat} {stA : List Value} (h : pm_rs bS ad [] stA) : stA = [] := by
  cases stA with
  | nil => rfl
  | cons w r' => exact h.elim
theorem pm_rs_len {bS : Nat} {ad : List Nat} : ∀ {st st' : List Value}, pm_rs bS ad st st' → st'.length = st.length
  | [], [], _ => rfl
  | _ :: _, _ :: _, h => by simp [pm_rs_len h.2]
  | [], _ :: _, h => h.elim
  | _ :: _, [], h => h.elim
theorem pm_rs_app {bS : Nat} {ad : List Nat} : ∀ {a a' b b' : List Value}, pm_rs bS ad a a' → pm_rs bS ad b b' → pm_rs bS ad (a ++ b) (a' ++ b')
  | [], [], _, _, _, h => h
  | _ :: _, _ :: _, _, _, h, h2 => ⟨h.1, pm_rs_app h.2 h2⟩
  | [], _ :: _, _, _, h, _ => h.elim
  | _ :: _, [], _, _, h, _ => h.elim
theorem pm_rs_rev {bS : Nat} {ad : List Nat} : ∀ {a a' : List Value}, pm_rs bS ad a a' → pm_rs bS ad a.reverse a'.reverse
  | [], [], _ => trivial
  | v :: r, w :: r', h => by
    rw [List.reverse_cons, List.reverse_cons]
    exact pm_rs_app (pm_rs_rev h.2) ⟨h.1, trivial⟩
  | [], _ :: _, h => h.elim
  | _ :: _, [], h => h.elim
theorem pm_rs_split {bS : Nat} {ad : List Nat} : ∀ {a b c : List Value}, pm_rs bS ad (a ++ b) c → ∃ a' b', c = a' ++ b' ∧ pm_rs bS ad a a' ∧ pm_rs bS ad b b'
  | [], b, c, h => ⟨[], c, rfl, trivial, h⟩
  | v :: r, b, c, h => by
    obtain ⟨w, r', rfl, h1, h2⟩ := pm_rs_cons h
    obtain ⟨a', b', rfl, h3, h4⟩ := pm_rs_split h2
    exact ⟨w :: a', b', rfl, ⟨h1, h3⟩, h4⟩
theorem pm_rs_cats {bS : Nat} {ad : List Nat} : ∀ {a a' : List Value}, pm_rs bS ad a a' → (a'.map fun v => v.category) = a.map fun v => v.category
  | [], [], _ => rfl
  | v :: r, w :: r', h => by simp [pm_rs_cats h.2, h.1.cat]
  | [], _ :: _, h => h.elim
  | _ :: _, [], h => h.elim
theorem pm_rl.get {bS : Nat} {ad : List Nat} {i : Nat} {v : Value} : ∀ {lv lvA : pm_L}, pm_rl bS ad lv lvA → pm_get lv i = some v → ∃ w, (i, w) ∈ lvA ∧ pm_rv bS ad v w
  | [], [], _, h => by cases h
  | q :: r, q' :: r', hr, h => by
    unfold pm_get at h
    split at h
    · rename_i hq
      cases h
      refine ⟨q'.2, ?_, hr.2.1⟩
      rw [← hq, hr.1]
      exact List.mem_cons_self
    · obtain ⟨w, h1, h2⟩ := pm_rl.get hr.2.2 h
      exact ⟨w, List.mem_cons_of_mem _ h1, h2⟩
  | [], _ :: _, h, _ => h.elim
  | _ :: _, [], h, _ => h.elim
theorem pm_rl.filt {bS : Nat} {ad : List Nat} {f : Nat × Value → Bool} (hf : ∀ q q' : Nat × Value, q.1 = q'.1 → q'.2.category = q.2.category → f q' = f q) : ∀ {lv lvA : pm_L}, pm_rl bS ad lv lvA → pm_rl bS ad (lv.filter f) (lvA.filter f)
  | [], [], _ => trivial
  | q :: r, q' :: r', hr => by
    have h1 := hf q q' hr.1 hr.2.1.cat
    have h2 := pm_rl.filt hf hr.2.2
    rw [List.filter_cons, List.filter_cons, h1]
    split
    · exact ⟨hr.1, hr.2.1, h2⟩
    · exact h2
  | [], _ :: _, h => h.elim
  | _ :: _, [], h => h.elim
theorem pm_rl.set {bS : Nat} {ad : List Nat} {i : Nat} {v w : Value} {lv lvA : pm_L} (h : pm_rl bS ad lv lvA) (hv : pm_rv bS ad v w) : pm_rl bS ad (pm_set lv i v) (pm_set lvA i w) :=
  ⟨rfl, hv, h.filt (fun q q' h1 h2 => by simp only [h1, h2])⟩
theorem pm_rl.set2 {bS : Nat} {ad : List Nat} {i : Nat} {v w : Value} {lv lvA : pm_L} (h : pm_rl bS ad lv lvA) (hv : pm_rv bS ad v w) : pm_rl bS ad (pm_set2 lv i v) (pm_set2 lvA i w) :=
  ⟨rfl, hv, h.filt (fun q q' h1 h2 => by simp only [h1, h2])⟩
/-! what an instruction does to locals and stack alone -/
def pm_i1 (st : List Value) : Option (Int32 × List Value) := match st with
  | .int x :: r => some (x, r)
  | _ => none
def pm_l1 (st : List Value) : Option (Int64 × List Value) := match st with
  | .long x :: r => some (x, r)
  | _ => none
def pm_c1 (st : List Value) : Option (Value × List Value) := match st with
  | v :: r => if v.category = 1 then some (v, r) else none
  | _ => none
theorem pm_i1_ok {st r : List Value} {x : Int32} (h : pm_i1 st = some (x, r)) : st = .int x :: r := by
  unfold pm_i1 at h; split at h
  · cases h; rfl
  · cases h
theorem pm_l1_ok {st r : List Value} {x : Int64} (h : pm_l1 st = some (x, r)) : st = .long x :: r := by
  unfold pm_l1 at h; split at h
  · cases h; rfl
  · cases h
theorem pm_c1_ok {st r : List Value} {v : Value} (h : pm_c1 st = some (v, r)) : st = v :: r ∧ v.category = 1 := by
  unfold pm_c1 at h; split at h
  · split at h
    · rename_i hc; cases h; exact ⟨rfl, hc⟩
    · cases h
  · cases h
def pm_ldi (lv : pm_L) (i : Nat) (st : List Value) : Option (pm_L × List Value) := match pm_get lv i with
  | some (.int x) => some (lv, .int x :: st)
  | _ => none
def pm_ldl (lv : pm_L) (i : Nat) (st : List Value) : Option (pm_L × List Value) := match pm_get lv i with
  | some (.long x) => some (lv, .long x :: st)
  | _ => none
def pm_lda (lv : pm_L) (i : Nat) (st : List Value) : Option (pm_L × List Value) := match pm_get lv i with
  | some (.ref x) => some (lv, .ref x :: st)
  | some .null => some (lv, .null :: st)
  | some (.retAddr x) => some (lv, .retAddr x :: st)
  | _ => none
def pm_sti (nL : Nat) (lv : pm_L) (i : Nat) (st : List Value) : Option (pm_L × List Value) := match st with
  | .int x :: r => if i < nL then some (pm_set lv i (.int x), r) else none
  | _ => none
def pm_stl (nL : Nat) (lv : pm_L) (i : Nat) (st : List Value) : Option (pm_L × List Value) := match st with
  | .long x :: r => if i + 1 < nL then some (pm_set2 lv i (.long x), r) else none
  | _ => none
def pm_sta (nL : Nat) (lv : pm_L) (i : Nat) (st : List Value) : Option (pm_L × List Value) := match st with
  | .ref x :: r => if i < nL then some (pm_set lv i (.ref x), r) else none
  | .null :: r => if i < nL then some (pm_set lv i .null, r) else none
  | _ => none
def pm_inc (nL : Nat) (lv : pm_L) (i : Nat) (n : Int) (st : List Value) : Option (pm_L × List Value) := match pm_get lv i with
  | some (.int x) => if i < nL then some (pm_set lv i (.int (x + Int32.ofInt n)), st) else none
  | _ => none
def pm_bi (f : Int32 → Int32 → Int32) (lv : pm_L) (st : List Value) : Option (pm_L × List Value) := match st with
  | .int y :: .int x :: r => some (lv, .int (f x y) :: r)
  | _ => none
def pm_bd (f : Int32 → Int32 → Int32) (lv : pm_L) (st : List Value) : Option (pm_L × List Value) := match st with
  | .int y :: .int x :: r => if y = 0 then none else some (lv, .int (f x y) :: r)
  | _ => none
def pm_ui (f : Int32 → Value) (lv : pm_L) (st : List Value) : Option (pm_L × List Value) := match st with
  | .int x :: r => some (lv, f x :: r)
  | _ => none
def pm_bl (f : Int64 → Int64 → Value) (lv : pm_L) (st : List Value) : Option (pm_L × List Value) := match st with
  | .long y :: .long x :: r => some (lv, f x y :: r)
  | _ => none
def pm_ul (f : Int64 → Value) (lv : pm_L) (st : List Value) : Option (pm_L × List Value) := match st with
  | .long x :: r => some (lv, f x :: r)
  | _ => none
def pm_dup (lv : pm_L) (st : List Value) : Option (pm_L × List Value) := match st with
  | v :: r => if v.category = 1 then some (lv, v :: v :: r) else none
  | _ => none
def pm_pop (lv : pm_L) (st : List Value) : Option (pm_L × List Value) := match st with
  | v :: r => if v.category = 1 then some (lv, r) else none
  | _ => none
def pm_dx1 (lv : pm_L) (st : List Value) : Option (pm_L × List Value) := match st with
  | v :: w :: r => if v.category = 1 ∧ w.category = 1 then some (lv, v :: w :: v :: r) else none
  | _ => none
def pm_dx2 (lv : pm_L) (st : List Value) : Option (pm_L × List Value) := match st with
  | v :: w :: u :: r => if v.category = 1 ∧ w.category = 1 ∧ u.category = 1 then some (lv, v :: w :: u :: v :: r) else none
  | _ => none
def pm_du2 (lv : pm_L) (st : List Value) : Option (pm_L × List Value) := match st with
  | v :: w :: r => if v.category = 1 ∧ w.category = 1 then some (lv, v :: w :: v :: w :: r) else none
  | _ => none
def pm_len (i : Instr) : Nat := match i with
  | .bipush _ | .iload _ | .lload _ | .aload _ | .istore _ | .lstore _ | .astore _ | .newarray _ | .ldc _ => 2
  | .sipush _ | .iinc _ _ | .ldc2_w _ | .goto _ | .ifCond _ _ | .if_icmp _ _ | .ifnull _ | .ifnonnull _ | .getfield _ | .putfield _ | .new _ | .anewarray _ | .invokespecial _ | .invokestatic _ | .invokevirtual _ => 3
  | _ => 1
def pm_sim (nL : Nat) (i : Instr) (lv : pm_L) (st : List Value) : Option (pm_L × List Value) := match i with
  | .iconst n => some (lv, .int (Int32.ofInt n) :: st)
  | .bipush n => some (lv, .int (Int8.ofInt n).toInt32 :: st)
  | .sipush n => some (lv, .int (Int16.ofInt n).toInt32 :: st)
  | .lconst n => some (lv, .long (Int64.ofNat n.val) :: st)
  | .aconst_null => some (lv, .null :: st)
  | .iload_n k => pm_ldi lv k.val st
  | .iload k => pm_ldi lv k st
  | .lload_n k => pm_ldl lv k.val st
  | .lload k => pm_ldl lv k st
  | .aload_n k => pm_lda lv k.val st
  | .aload k => pm_lda lv k st
  | .istore_n k => pm_sti nL lv k.val st
  | .istore k => pm_sti nL lv k st
  | .lstore_n k => pm_stl nL lv k.val st
  | .lstore k => pm_stl nL lv k st
  | .astore_n k => pm_sta nL lv k.val st
  | .astore k => pm_sta nL lv k st
  | .iinc k n => pm_inc nL lv k n st
  | .iadd => pm_bi (fun x y => x + y) lv st
  | .isub => pm_bi (fun x y => x - y) lv st
  | .imul => pm_bi (fun x y => x * y) lv st
  | .iand => pm_bi (fun x y => x &&& y) lv st
  | .ior => pm_bi (fun x y => x ||| y) lv st
  | .ishl => pm_bi (fun x y => x <<< (y &&& 31)) lv st
  | .ishr => pm_bi (fun x y => x >>> (y &&& 31)) lv st
  | .iushr => pm_bi (fun x y => (x.toUInt32 >>> (y.toUInt32 &&& Int32.toUInt32 31)).toInt32) lv st
  | .idiv => pm_bd (fun x y => x / y) lv st
  | .irem => pm_bd (fun x y => x - x / y * y) lv st
  | .ineg => pm_ui (fun x => .int (-x)) lv st
  | .i2l => pm_ui (fun x => .long x.toInt64) lv st
  | .i2c => pm_ui (fun x => .int (x.toUInt32 % 65536).toInt32) lv st
  | .l2i => pm_ul (fun x => .int x.toInt32) lv st
  | .ladd => pm_bl (fun x y => .long (x + y)) lv st
  | .lsub => pm_bl (fun x y => .long (x - y)) lv st
  | .lmul => pm_bl (fun x y => .long (x * y)) lv st
  | .lcmp => pm_bl (fun x y => .int (lg_cmp x y)) lv st
  | .dup => pm_dup lv st
  | .pop => pm_pop lv st
  | .dup_x1 => pm_dx1 lv st
  | .dup_x2 => pm_dx2 lv st
  | .dup2 => pm_du2 lv st
  | _ => none
theorem pm_ldi_ok {lv lv2 : pm_L} {i : Nat} {st st2 : List Value} (h : pm_ldi lv i st = some (lv2, st2)) : ∃ x, pm_get lv i = some (.int x) ∧ lv2 = lv ∧ st2 = .int x :: st := by
  unfold pm_ldi at h; split at h
  · rename_i x hx; cases h; exact ⟨x, hx, rfl, rfl⟩
  · cases h
theorem pm_ldl_ok {lv lv2 : pm_L} {i : Nat} {st st2 : List Value} (h : pm_ldl lv i st = some (lv2, st2)) : ∃ x, pm_get lv i = some (.long x) ∧ lv2 = lv ∧ st2 = .long x :: st := by
  unfold pm_ldl at h; split at h
  · rename_i x hx; cases h; exact ⟨x, hx, rfl, rfl⟩
  · cases h
theorem pm_lda_ok {lv lv2 : pm_L} {i : Nat} {st st2 : List Value} (h : pm_lda lv i st = some (lv2, st2)) : ∃ v, pm_get lv i = some v ∧ lv2 = lv ∧ st2 = v :: st ∧ ((∃ x, v = .ref x) ∨ v = .null ∨ ∃ x, v = .retAddr x) := by
  unfold pm_lda at h; split at h
  · rename_i x hx; cases h; exact ⟨_, hx, rfl, rfl, Or.inl ⟨_, rfl⟩⟩
  · rename_i hx; cases h; exact ⟨_, hx, rfl, rfl, Or.inr (Or.inl rfl)⟩
  · rename_i x hx; cases h; exact ⟨_, hx, rfl, rfl, Or.inr (Or.inr ⟨_, rfl⟩)⟩
  · cases h
theorem pm_sti_ok {nL : Nat} {lv lv2 : pm_L} {i : Nat} {st st2 : List Value} (h : pm_sti nL lv i st = some (lv2, st2)) : ∃ x r, st = .int x :: r ∧ i < nL ∧ lv2 = pm_set lv i (.int x) ∧ st2 = r := by
  unfold pm_sti at h; split at h
  · split at h
    · rename_i hn; cases h; exact ⟨_, _, rfl, hn, rfl, rfl⟩
    · cases h
  · cases h
theorem pm_stl_ok {nL : Nat} {lv lv2 : pm_L} {i : Nat} {st st2 : List Value} (h : pm_stl nL lv i st = some (lv2, st2)) : ∃ x r, st = .long x :: r ∧ i + 1 < nL ∧ lv2 = pm_set2 lv i (.long x) ∧ st2 = r := by
  unfold pm_stl at h; split at h
  · split at h
    · rename_i hn; cases h; exact ⟨_, _, rfl, hn, rfl, rfl⟩
    · cases h
  · cases h
theorem pm_sta_ok {nL : Nat} {lv lv2 : pm_L} {i : Nat} {st st2 : List Value} (h : pm_sta nL lv i st = some (lv2, st2)) : ∃ v r, st = v :: r ∧ i < nL ∧ lv2 = pm_set lv i v ∧ st2 = r ∧ ((∃ x, v = .ref x) ∨ v = .null) := by
  unfold pm_sta at h; split at h
  · split at h
    · rename_i hn; cases h; exact ⟨_, _, rfl, hn, rfl, rfl, Or.inl ⟨_, rfl⟩⟩
    · cases h
  · split at h
    · rename_i hn; cases h; exact ⟨_, _, rfl, hn, rfl, rfl, Or.inr rfl⟩
    · cases h
  · cases h
theorem pm_inc_ok {nL : Nat} {lv lv2 : pm_L} {i : Nat} {n : Int} {st st2 : List Value} (h : pm_inc nL lv i n st = some (lv2, st2)) : ∃ x, pm_get lv i = some (.int x) ∧ i < nL ∧ lv2 = pm_set lv i (.int (x + Int32.ofInt n)) ∧ st2 = st := by
  unfold pm_inc at h; split at h
  · rename_i x hx
    split at h
    · rename_i hn; cases h; exact ⟨x, hx, hn, rfl, rfl⟩
    · cases h
  · cases h
theorem pm_bi_ok {f : Int32 → Int32 → Int32} {lv lv2 : pm_L} {st st2 : List Value} (h : pm_bi f lv st = some (lv2, st2)) : ∃ x y r, st = .int y :: .int x :: r ∧ lv2 = lv ∧ st2 = .int (f x y) :: r := by
  unfold pm_bi at h; split at h
  · cases h; exact ⟨_, _, _, rfl, rfl, rfl⟩
  · cases h
theorem pm_bd_ok {f : Int32 → Int32 → Int32} {lv lv2 : pm_L} {st st2 : List Value} (h : pm_bd f lv st = some (lv2, st2)) : ∃ x y r, st = .int y :: .int x :: r ∧ ¬ y = 0 ∧ lv2 = lv ∧ st2 = .int (f x y) :: r := by
  unfold pm_bd at h; split at h
  · split at h
    · cases h
    · rename_i hn; cases h; exact ⟨_, _, _, rfl, hn, rfl, rfl⟩
  · cases h
theorem pm_ui_ok {f : Int32 → Value} {lv lv2 : pm_L} {st st2 : List Value} (h : pm_ui f lv st = some (lv2, st2)) : ∃ x r, st = .int x :: r ∧ lv2 = lv ∧ st2 = f x :: r := by
  unfold pm_ui at h; split at h
  · cases h; exact ⟨_, _, rfl, rfl, rfl⟩
  · cases h
theorem pm_ul_ok {f : Int64 → Value} {lv lv2 : pm_L} {st st2 : List Value} (h : pm_ul f lv st = some (lv2, st2)) : ∃ x r, st = .long x :: r ∧ lv2 = lv ∧ st2 = f x :: r := by
  unfold pm_ul at h; split at h
  · cases h; exact ⟨_, _, rfl, rfl, rfl⟩
  · cases h
theorem pm_bl_ok {f : Int64 → Int64 → Value} {lv lv2 : pm_L} {st st2 : List Value} (h : pm_bl f lv st = some (lv2, st2)) : ∃ x y r, st = .long y :: .long x :: r ∧ lv2 = lv ∧ st2 = f x y :: r := by
  unfold pm_bl at h; split at h
  · cases h; exact ⟨_, _, _, rfl, rfl, rfl⟩
  · cases h
theorem pm_rs_i {bS : Nat} {ad : List Nat} {x : Int32} {r stA : List Value} (h : pm_rs bS ad (.int x :: r) stA) : ∃ r', stA = .int x :: r' ∧ pm_rs bS ad r r' := by
  obtain ⟨w, r', rfl, hw, hr⟩ := pm_rs_cons h
  exact ⟨r', by rw [show w = .int x from hw], hr⟩
theorem pm_rs_l {bS : Nat} {ad : List Nat} {x : Int64} {r stA : List Value} (h : pm_rs bS ad (.long x :: r) stA) : ∃ r', stA = .long x :: r' ∧ pm_rs bS ad r r' := by
  obtain ⟨w, r', rfl, hw, hr⟩ := pm_rs_cons h
  exact ⟨r', by rw [show w = .long x from hw], hr⟩
theorem pm_rs_n {bS : Nat} {ad : List Nat} {r stA : List Value} (h : pm_rs bS ad (.null :: r) stA) : ∃ r', stA = .null :: r' ∧ pm_rs bS ad r r' := by
  obtain ⟨w, r', rfl, hw, hr⟩ := pm_rs_cons h
  exact ⟨r', by rw [show w = .null from hw], hr⟩
theorem pm_rs_r {bS : Nat} {ad : List Nat} {k : Nat} {r stA : List Value} (h : pm_rs bS ad (.ref k :: r) stA) : ∃ a r', ad[k]? = some a ∧ stA = .ref a :: r' ∧ pm_rs bS ad r r' := by
  obtain ⟨w, r', rfl, ⟨a, ha, rfl⟩, hr⟩ := pm_rs_cons h
  exact ⟨a, r', ha, rfl, hr⟩
theorem pm_rs_s {bS : Nat} {ad : List Nat} {k : Nat} {r stA : List Value} (h : pm_rs bS ad (.retAddr k :: r) stA) : ∃ r', stA = .ref bS :: r' ∧ pm_rs bS ad r r' := by
  obtain ⟨w, r', rfl, hw, hr⟩ := pm_rs_cons h
  exact ⟨r', by rw [show w = .ref bS from hw], hr⟩
section PMSIM
variable {p : Program} {l : Launch} {e : Env} {R : Room} {s : State} {m : MethodId} {args : Array Value} {below : List Frame} {meth : Method} {c : Code} {H : Heap} {locs : List Loc} {cells slots : Nat} {Q : State → Prop}
variable {cc : ByteArray} {pc nL : Nat} {ls : Array Slot} {bS : Nat} {ad : List Nat}
set_option maxHeartbeats 4000000 in
theorem pm_sim_ok (hx : p.tables.exec = Jvm.exec) (hb : c.code = cc) {i : Instr} {lv lv2 lvA : pm_L} {st st2 stA : List Value} (h : pm_sim nL i lv st = some (lv2, st2)) (hd : decode cc pc = .ok (i, pm_len i)) (hl : lv_has ls nL lvA) (hv : pm_rl bS ad lv lvA) (hs : pm_rs bS ad st stA)
    (kk : ∀ (ls2 : Array Slot) (lvA2 : pm_L) (stA2 : List Value), lv_has ls2 nL lvA2 → pm_rl bS ad lv2 lvA2 → pm_rs bS ad st2 stA2 → W p l e R s m args below meth c H locs cells slots Q (F0 m (pc + pm_len i) ls2 stA2)) : W p l e R s m args below meth c H locs cells slots Q (F0 m pc ls stA) := by
  cases i
  case iconst n => cases h; exact lv_iconst hx hb hd rfl (kk ls lvA _ hl hv ⟨rfl, hs⟩)
  case bipush n => cases h; exact lv_bipush hx hb hd rfl (kk ls lvA _ hl hv ⟨rfl, hs⟩)
  case sipush n => cases h; exact lv_sipush hx hb hd rfl (kk ls lvA _ hl hv ⟨rfl, hs⟩)
  case lconst n => cases h; exact lv_lconst hx hb hd rfl (kk ls lvA _ hl hv ⟨rfl, hs⟩)
  case aconst_null => cases h; exact lv_null hx hb hd (kk ls lvA _ hl hv ⟨rfl, hs⟩)
  case iload_n k =>
    obtain ⟨x, hg, rfl, rfl⟩ := pm_ldi_ok h
    obtain ⟨w, hm, hw⟩ := hv.get hg
    rw [show w = .int x from hw] at hm
    exact lv_iload_n hx hb hd rfl (hl.2.2 _ hm) (kk ls lvA _ hl hv ⟨rfl, hs⟩)
  case iload k =>
    obtain ⟨x, hg, rfl, rfl⟩ := pm_ldi_ok h
    obtain ⟨w, hm, hw⟩ := hv.get hg
    rw [show w = .int x from hw] at hm
    exact lv_iload hx hb hd (hl.2.2 _ hm) (kk ls lvA _ hl hv ⟨rfl, hs⟩)
  case lload_n k =>
    obtain ⟨x, hg, rfl, rfl⟩ := pm_ldl_ok h
    obtain ⟨w, hm, hw⟩ := hv.get hg
    rw [show w = .long x from hw] at hm
    exact lv_lload_n hx hb hd rfl (hl.2.2 _ hm) (kk ls lvA _ hl hv ⟨rfl, hs⟩)
  case lload k =>
    obtain ⟨x, hg, rfl, rfl⟩ := pm_ldl_ok h
    obtain ⟨w, hm, hw⟩ := hv.get hg
    rw [show w = .long x from hw] at hm
    exact lv_lload hx hb hd (hl.2.2 _ hm) (kk ls lvA _ hl hv ⟨rfl, hs⟩)
  case aload_n k =>
    obtain ⟨v, hg, rfl, rfl, hc⟩ := pm_lda_ok h
    obtain ⟨w, hm, hw⟩ := hv.get hg
    rcases hc with ⟨x, rfl⟩ | rfl | ⟨x, rfl⟩
    · obtain ⟨a, ha, rfl⟩ := id hw
      exact lv_aload_n hx hb hd rfl (hl.2.2 _ hm) (kk ls lvA _ hl hv ⟨hw, hs⟩)
    · rw [show w = .null from hw] at hm
      exact lv_aload_nN hx hb hd rfl (hl.2.2 _ hm) (kk ls lvA _ hl hv ⟨rfl, hs⟩)
    · rw [show w = .ref bS from hw] at hm
      exact lv_aload_n hx hb hd rfl (hl.2.2 _ hm) (kk ls lvA _ hl hv ⟨rfl, hs⟩)
  case aload k =>
    obtain ⟨v, hg, rfl, rfl, hc⟩ := pm_lda_ok h
    obtain ⟨w, hm, hw⟩ := hv.get hg
    rcases hc with ⟨x, rfl⟩ | rfl | ⟨x, rfl⟩
    · obtain ⟨a, ha, rfl⟩ := id hw
      exact lv_aload hx hb hd (hl.2.2 _ hm) (kk ls lvA _ hl hv ⟨hw, hs⟩)
    · rw [show w = .null from hw] at hm
      exact lv_aloadN hx hb hd (hl.2.2 _ hm) (kk ls lvA _ hl hv ⟨rfl, hs⟩)
    · rw [show w = .ref bS from hw] at hm
      exact lv_aload hx hb hd (hl.2.2 _ hm) (kk ls lvA _ hl hv ⟨rfl, hs⟩)
  case istore_n k =>
    obtain ⟨x, r, rfl, hn, rfl, rfl⟩ := pm_sti_ok h
    obtain ⟨r', rfl, hr⟩ := pm_rs_i hs
    exact lv_istore_n (lv' := pm_set lvA k.val (.int x)) hx hb hd rfl hl hn rfl (fun ls2 h2 => kk ls2 _ _ h2 (hv.set rfl) hr)
  case istore k =>
    obtain ⟨x, r, rfl, hn, rfl, rfl⟩ := pm_sti_ok h
    obtain ⟨r', rfl, hr⟩ := pm_rs_i hs
    exact lv_istore (lv' := pm_set lvA k (.int x)) hx hb hd hl hn rfl (fun ls2 h2 => kk ls2 _ _ h2 (hv.set rfl) hr)
  case lstore_n k =>
    obtain ⟨x, r, rfl, hn, rfl, rfl⟩ := pm_stl_ok h
    obtain ⟨r', rfl, hr⟩ := pm_rs_l hs
    exact lv_lstore_n (lv' := pm_set2 lvA k.val (.long x)) hx hb hd rfl hl hn rfl (fun ls2 h2 => kk ls2 _ _ h2 (hv.set2 rfl) hr)
  case lstore k =>
    obtain ⟨x, r, rfl, hn, rfl, rfl⟩ := pm_stl_ok h
    obtain ⟨r', rfl, hr⟩ := pm_rs_l hs
    exact lv_lstore (lv' := pm_set2 lvA k (.long x)) hx hb hd hl hn rfl (fun ls2 h2 => kk ls2 _ _ h2 (hv.set2 rfl) hr)
  case astore_n k =>
    obtain ⟨v, r, rfl, hn, rfl, rfl, hc⟩ := pm_sta_ok h
    obtain ⟨w, r', rfl, hw, hr⟩ := pm_rs_cons hs
    rcases hc with ⟨x, rfl⟩ | rfl
    · obtain ⟨a, ha, rfl⟩ := id hw
      exact lv_astore_n (lv' := pm_set lvA k.val (.ref a)) hx hb hd rfl hl hn rfl (fun ls2 h2 => kk ls2 _ _ h2 (hv.set hw) hr)
    · obtain rfl : w = .null := hw
      exact lv_astore_nN (lv' := pm_set lvA k.val .null) hx hb hd rfl hl hn rfl (fun ls2 h2 => kk ls2 _ _ h2 (hv.set rfl) hr)
  case astore k =>
    obtain ⟨v, r, rfl, hn, rfl, rfl, hc⟩ := pm_sta_ok h
    obtain ⟨w, r', rfl, hw, hr⟩ := pm_rs_cons hs
    rcases hc with ⟨x, rfl⟩ | rfl
    · obtain ⟨a, ha, rfl⟩ := id hw
      exact lv_astore (lv' := pm_set lvA k (.ref a)) hx hb hd hl hn rfl (fun ls2 h2 => kk ls2 _ _ h2 (hv.set hw) hr)
    · obtain rfl : w = .null := hw
      exact lv_astoreN (lv' := pm_set lvA k .null) hx hb hd hl hn rfl (fun ls2 h2 => kk ls2 _ _ h2 (hv.set rfl) hr)
  case iinc k n =>
    obtain ⟨x, hg, hn, rfl, rfl⟩ := pm_inc_ok h
    obtain ⟨w, hm, hw⟩ := hv.get hg
    rw [show w = .int x from hw] at hm
    obtain ⟨j, hj⟩ := List.getElem?_of_mem hm
    exact lv_iinc (lv' := pm_set lvA k (.int (x + Int32.ofInt n))) hx hb hd hl hj rfl hn rfl (fun ls2 h2 => kk ls2 _ _ h2 (hv.set rfl) hs)
  case iadd =>
    obtain ⟨x, y, r, rfl, rfl, rfl⟩ := pm_bi_ok h
    obtain ⟨r1, rfl, h1⟩ := pm_rs_i hs
    obtain ⟨r2, rfl, h2⟩ := pm_rs_i h1
    exact lv_iadd hx hb hd (kk ls lvA _ hl hv ⟨rfl, h2⟩)
  case isub =>
    obtain ⟨x, y, r, rfl, rfl, rfl⟩ := pm_bi_ok h
    obtain ⟨r1, rfl, h1⟩ := pm_rs_i hs
    obtain ⟨r2, rfl, h2⟩ := pm_rs_i h1
    exact lv_isub hx hb hd (kk ls lvA _ hl hv ⟨rfl, h2⟩)
  case imul =>
    obtain ⟨x, y, r, rfl, rfl, rfl⟩ := pm_bi_ok h
    obtain ⟨r1, rfl, h1⟩ := pm_rs_i hs
    obtain ⟨r2, rfl, h2⟩ := pm_rs_i h1
    exact lv_imul hx hb hd (kk ls lvA _ hl hv ⟨rfl, h2⟩)
  case iand =>
    obtain ⟨x, y, r, rfl, rfl, rfl⟩ := pm_bi_ok h
    obtain ⟨r1, rfl, h1⟩ := pm_rs_i hs
    obtain ⟨r2, rfl, h2⟩ := pm_rs_i h1
    exact lv_iand hx hb hd (kk ls lvA _ hl hv ⟨rfl, h2⟩)
  case ior =>
    obtain ⟨x, y, r, rfl, rfl, rfl⟩ := pm_bi_ok h
    obtain ⟨r1, rfl, h1⟩ := pm_rs_i hs
    obtain ⟨r2, rfl, h2⟩ := pm_rs_i h1
    exact lv_ior hx hb hd (kk ls lvA _ hl hv ⟨rfl, h2⟩)
  case ishl =>
    obtain ⟨x, y, r, rfl, rfl, rfl⟩ := pm_bi_ok h
    obtain ⟨r1, rfl, h1⟩ := pm_rs_i hs
    obtain ⟨r2, rfl, h2⟩ := pm_rs_i h1
    exact lv_ishl hx hb hd (kk ls lvA _ hl hv ⟨rfl, h2⟩)
  case ishr =>
    obtain ⟨x, y, r, rfl, rfl, rfl⟩ := pm_bi_ok h
    obtain ⟨r1, rfl, h1⟩ := pm_rs_i hs
    obtain ⟨r2, rfl, h2⟩ := pm_rs_i h1
    exact lv_ishr hx hb hd (kk ls lvA _ hl hv ⟨rfl, h2⟩)
  case iushr =>
    obtain ⟨x, y, r, rfl, rfl, rfl⟩ := pm_bi_ok h
    obtain ⟨r1, rfl, h1⟩ := pm_rs_i hs
    obtain ⟨r2, rfl, h2⟩ := pm_rs_i h1
    exact lv_iushr hx hb hd rfl (kk ls lvA _ hl hv ⟨rfl, h2⟩)
  case idiv =>
    obtain ⟨x, y, r, rfl, hy, rfl, rfl⟩ := pm_bd_ok h
    obtain ⟨r1, rfl, h1⟩ := pm_rs_i hs
    obtain ⟨r2, rfl, h2⟩ := pm_rs_i h1
    exact lv_idiv hx hb hd hy (kk ls lvA _ hl hv ⟨rfl, h2⟩)
  case irem =>
    obtain ⟨x, y, r, rfl, hy, rfl, rfl⟩ := pm_bd_ok h
    obtain ⟨r1, rfl, h1⟩ := pm_rs_i hs
    obtain ⟨r2, rfl, h2⟩ := pm_rs_i h1
    exact lv_irem hx hb hd hy (kk ls lvA _ hl hv ⟨rfl, h2⟩)
  case ineg =>
    obtain ⟨x, r, rfl, rfl, rfl⟩ := pm_ui_ok h
    obtain ⟨r1, rfl, h1⟩ := pm_rs_i hs
    exact lv_ineg hx hb hd (kk ls lvA _ hl hv ⟨rfl, h1⟩)
  case i2l =>
    obtain ⟨x, r, rfl, rfl, rfl⟩ := pm_ui_ok h
    obtain ⟨r1, rfl, h1⟩ := pm_rs_i hs
    exact lv_i2l hx hb hd rfl (kk ls lvA _ hl hv ⟨rfl, h1⟩)
  case i2c =>
    obtain ⟨x, r, rfl, rfl, rfl⟩ := pm_ui_ok h
    obtain ⟨r1, rfl, h1⟩ := pm_rs_i hs
    exact lv_i2c hx hb hd rfl (kk ls lvA _ hl hv ⟨rfl, h1⟩)
  case l2i =>
    obtain ⟨x, r, rfl, rfl, rfl⟩ := pm_ul_ok h
    obtain ⟨r1, rfl, h1⟩ := pm_rs_l hs
    exact lv_l2i hx hb hd rfl (kk ls lvA _ hl hv ⟨rfl, h1⟩)
  case ladd =>
    obtain ⟨x, y, r, rfl, rfl, rfl⟩ := pm_bl_ok h
    obtain ⟨r1, rfl, h1⟩ := pm_rs_l hs
    obtain ⟨r2, rfl, h2⟩ := pm_rs_l h1
    exact lv_ladd hx hb hd (kk ls lvA _ hl hv ⟨rfl, h2⟩)
  case lsub =>
    obtain ⟨x, y, r, rfl, rfl, rfl⟩ := pm_bl_ok h
    obtain ⟨r1, rfl, h1⟩ := pm_rs_l hs
    obtain ⟨r2, rfl, h2⟩ := pm_rs_l h1
    exact lv_lsub hx hb hd (kk ls lvA _ hl hv ⟨rfl, h2⟩)
  case lmul =>
    obtain ⟨x, y, r, rfl, rfl, rfl⟩ := pm_bl_ok h
    obtain ⟨r1, rfl, h1⟩ := pm_rs_l hs
    obtain ⟨r2, rfl, h2⟩ := pm_rs_l h1
    exact lv_lmul hx hb hd (kk ls lvA _ hl hv ⟨rfl, h2⟩)
  case lcmp =>
    obtain ⟨x, y, r, rfl, rfl, rfl⟩ := pm_bl_ok h
    obtain ⟨r1, rfl, h1⟩ := pm_rs_l hs
    obtain ⟨r2, rfl, h2⟩ := pm_rs_l h1
    exact W.lcmp hx hb hd (kk ls lvA _ hl hv ⟨rfl, h2⟩)
  case dup =>
    replace h : pm_dup lv st = some (lv2, st2) := h
    unfold pm_dup at h
    split at h
    · split at h
      · rename_i v r hc
        cases h
        obtain ⟨w, r', rfl, hw, hr⟩ := pm_rs_cons hs
        exact lv_dup hx hb hd (hw.cat.trans hc) (kk ls lvA _ hl hv ⟨hw, hw, hr⟩)
      · cases h
    · cases h
  case pop =>
    replace h : pm_pop lv st = some (lv2, st2) := h
    unfold pm_pop at h
    split at h
    · split at h
      · rename_i v r hc
        cases h
        obtain ⟨w, r', rfl, hw, hr⟩ := pm_rs_cons hs
        exact lv_pop hx hb hd (hw.cat.trans hc) (kk ls lvA _ hl hv hr)
      · cases h
    · cases h
  case dup_x1 =>
    replace h : pm_dx1 lv st = some (lv2, st2) := h
    unfold pm_dx1 at h
    split at h
    · split at h
      · rename_i v u r hc
        cases h
        obtain ⟨w, r', rfl, hw, hr⟩ := pm_rs_cons hs
        obtain ⟨w2, r2, rfl, hw2, hr2⟩ := pm_rs_cons hr
        exact lv_dup_x1 hx hb hd (hw.cat.trans hc.1) (hw2.cat.trans hc.2) (kk ls lvA _ hl hv ⟨hw, hw2, hw, hr2⟩)
      · cases h
    · cases h
  case dup_x2 =>
    replace h : pm_dx2 lv st = some (lv2, st2) := h
    unfold pm_dx2 at h
    split at h
    · split at h
      · rename_i v u t r hc
        cases h
        obtain ⟨w, r', rfl, hw, hr⟩ := pm_rs_cons hs
        obtain ⟨w2, r2, rfl, hw2, hr2⟩ := pm_rs_cons hr
        obtain ⟨w3, r3, rfl, hw3, hr3⟩ := pm_rs_cons hr2
        exact lv_dup_x2 hx hb hd (hw.cat.trans hc.1) (hw2.cat.trans hc.2.1) (hw3.cat.trans hc.2.2) (kk ls lvA _ hl hv ⟨hw, hw2, hw3, hw, hr3⟩)
      · cases h
    · cases h
  case dup2 =>
    replace h : pm_du2 lv st = some (lv2, st2) := h
    unfold pm_du2 at h
    split at h
    · split at h
      · rename_i v u r hc
        cases h
        obtain ⟨w, r', rfl, hw, hr⟩ := pm_rs_cons hs
        obtain ⟨w2, r2, rfl, hw2, hr2⟩ := pm_rs_cons hr
        exact lv_dup2_11 hx hb hd (hw.cat.trans hc.1) (hw2.cat.trans hc.2) (kk ls lvA _ hl hv ⟨hw, hw2, hw, hw2, hr2⟩)
      · cases h
    · cases h
  all_goals exact nomatch (show (none : Option (pm_L × List Value)) = some (lv2, st2) from h)
end PMSIM
end
section
/-! THE PURE MACHINE, 2: jumps and switches -/
def pm_tgt (pc : Nat) (off : Int) : Option Nat := match (pc : Int) + off with
  | .ofNat t => some t
  | .negSucc _ => none
theorem pm_tgt_ok {pc t : Nat} {off : Int} (h : pm_tgt pc off = some t) : (pc : Int) + off = (t : Int) := by
  unfold pm_tgt at h
  split at h
  · rename_i u hu; cases h; exact hu
  · cases h
def pm_cz (c : Jvm.ClassFile.Cond) (x y : Int32) : Bool := match c with
  | .eq => decide (x = y)
  | .ne => !decide (x = y)
  | .lt => decide (x < y)
  | .ge => decide (y ≤ x)
  | .gt => decide (y < x)
  | .le => decide (x ≤ y)
def pm_isw (i : Instr) : Bool := match i with
  | .tableswitch _ _ _ _ => true
  | .lookupswitch _ _ => true
  | _ => false
def pm_jto (pc : Nat) (off : Int) (st : List Value) : Option (Nat × List Value) := match pm_tgt pc off with
  | some t => some (t, st)
  | none => none
def pm_jc (b : Bool) (pc : Nat) (off : Int) (st : List Value) : Option (Nat × List Value) := match pm_tgt pc off with
  | some t => some (if b = true then t else pc + 3, st)
  | none => none
theorem pm_jto_ok {pc t : Nat} {off : Int} {st st2 : List Value} (h : pm_jto pc off st = some (t, st2)) : (pc : Int) + off = (t : Int) ∧ st2 = st := by
  unfold pm_jto at h
  split at h
  · rename_i u hu; cases h; exact ⟨pm_tgt_ok hu, rfl⟩
  · cases h
theorem pm_jc_ok {b : Bool} {pc t : Nat} {off : Int} {st st2 : List Value} (h : pm_jc b pc off st = some (t, st2)) : ∃ u : Nat, (pc : Int) + off = (u : Int) ∧ st2 = st ∧ (b = true → t = u) ∧ (b = false → t = pc + 3) := by
  unfold pm_jc at h
  split at h
  · rename_i u hu
    cases h
    refine ⟨u, pm_tgt_ok hu, rfl, fun q => by rw [if_pos q], fun q => by rw [if_neg (by rw [q]; decide)]⟩
  · cases h
def pm_jz (c : Jvm.ClassFile.Cond) (off : Int) (pc : Nat) (st : List Value) : Option (Nat × List Value) := match st with
  | .int x :: r => pm_jc (pm_cz c x 0) pc off r
  | _ => none
def pm_j2 (c : Jvm.ClassFile.Cond) (off : Int) (pc : Nat) (st : List Value) : Option (Nat × List Value) := match st with
  | .int y :: .int x :: r => pm_jc (pm_cz c x y) pc off r
  | _ => none
def pm_jn (off : Int) (pc : Nat) (st : List Value) : Option (Nat × List Value) := match st with
  | .null :: r => pm_jto pc off r
  | .ref _ :: r => some (pc + 3, r)
  | _ => none
def pm_jm (off : Int) (pc : Nat) (st : List Value) : Option (Nat × List Value) := match st with
  | .null :: r => some (pc + 3, r)
  | .ref _ :: r => pm_jto pc off r
  | _ => none
def pm_ts (d lo hi : Int) (offs : Array Int) (pc : Nat) (st : List Value) : Option (Nat × List Value) := match st with
  | .int x :: r => if x.toInt < lo ∨ hi < x.toInt then pm_jto pc d r else match offs[(x.toInt - lo).toNat]? with
    | some o => pm_jto pc o r
    | none => none
  | _ => none
def pm_lks (d : Int) (ps : Array (Int × Int)) (pc : Nat) (st : List Value) : Option (Nat × List Value) := match st with
  | .int x :: r => if (ps.toList.zip (ps.toList.drop 1)).all (fun (a, next) => a.1 < next.1) = true then pm_jto pc (Op.lookupswitch.offset ps.toList d x.toInt) r else none
  | _ => none
def pm_jmp (i : Instr) (pc : Nat) (st : List Value) : Option (Nat × List Value) := match i with
  | .goto off => pm_jto pc off st
  | .ifCond c off => pm_jz c off pc st
  | .if_icmp c off => pm_j2 c off pc st
  | .ifnull off => pm_jn off pc st
  | .ifnonnull off => pm_jm off pc st
  | .tableswitch d lo hi offs => pm_ts d lo hi offs pc st
  | .lookupswitch d ps => pm_lks d ps pc st
  | _ => none
theorem pm_cz_eq {x y : Int32} : pm_cz .eq x y = true ↔ x = y := by simp [pm_cz]
theorem pm_cz_ne {x y : Int32} : pm_cz .ne x y = true ↔ ¬ x = y := by simp [pm_cz]
theorem pm_cz_lt {x y : Int32} : pm_cz .lt x y = true ↔ x < y := by simp [pm_cz]
theorem pm_cz_ge {x y : Int32} : pm_cz .ge x y = true ↔ y ≤ x := by simp [pm_cz]
theorem pm_cz_gt {x y : Int32} : pm_cz .gt x y = true ↔ y < x := by simp [pm_cz]
theorem pm_cz_le {x y : Int32} : pm_cz .le x y = true ↔ x ≤ y := by simp [pm_cz]
theorem pm_bf {b : Bool} {P : Prop} (h : b = true ↔ P) (n : ¬ P) : b = false := by
  cases b
  · rfl
  · exact absurd (h.mp rfl) n
section PMJMP
variable {p : Program} {l : Launch} {e : Env} {R : Room} {s : State} {m : MethodId} {args : Array Value} {below : List Frame} {meth : Method} {c : Code} {H : Heap} {locs : List Loc} {cells slots : Nat} {Q : State → Prop}
variable {cc : ByteArray} {pc nL : Nat} {ls : Array Slot} {bS : Nat} {ad : List Nat}
theorem pm_jmp_ok (hx : p.tables.exec = Jvm.exec) (hb : c.code = cc) {i : Instr} {pc2 len : Nat} {st st2 stA : List Value} (h : pm_jmp i pc st = some (pc2, st2)) (hd : decode cc pc = .ok (i, len)) (hk : pm_isw i = true ∨ len = pm_len i) (hs : pm_rs bS ad st stA)
    (kk : ∀ stA2 : List Value, pm_rs bS ad st2 stA2 → W p l e R s m args below meth c H locs cells slots Q (F0 m pc2 ls stA2)) : W p l e R s m args below meth c H locs cells slots Q (F0 m pc ls stA) := by
  cases i
  case goto off =>
    obtain ⟨ht, rfl⟩ := pm_jto_ok h
    rcases hk with hk | hk
    · cases hk
    · subst hk
      exact lv_goto hx hb hd ht (kk _ hs)
  case ifCond cn off =>
    rcases hk with hk | hk
    · cases hk
    subst hk
    replace h : pm_jz cn off pc st = some (pc2, st2) := h
    unfold pm_jz at h
    split at h
    · rename_i x r
      obtain ⟨r1, rfl, h1⟩ := pm_rs_i hs
      obtain ⟨u, ht, rfl, hy, hn⟩ := pm_jc_ok h
      have k1 := kk _ h1
      cases cn
      · exact lv_if_eq hx hb hd ht (fun q => by rw [← hy (pm_cz_eq.mpr q)]; exact k1) (fun q => by rw [← hn (pm_bf pm_cz_eq q)]; exact k1)
      · exact lv_if_ne hx hb hd ht (fun q => by rw [← hy (pm_cz_ne.mpr q)]; exact k1) (fun q => by rw [← hn (pm_bf pm_cz_ne (fun z => z q))]; exact k1)
      · exact lv_if_lt hx hb hd ht (fun q => by rw [← hy (pm_cz_lt.mpr q)]; exact k1) (fun q => by rw [← hn (pm_bf pm_cz_lt q)]; exact k1)
      · exact lv_if_ge hx hb hd ht (fun q => by rw [← hy (pm_cz_ge.mpr q)]; exact k1) (fun q => by rw [← hn (pm_bf pm_cz_ge q)]; exact k1)
      · exact lv_if_gt hx hb hd ht (fun q => by rw [← hy (pm_cz_gt.mpr q)]; exact k1) (fun q => by rw [← hn (pm_bf pm_cz_gt q)]; exact k1)
      · exact lv_if_le hx hb hd ht (fun q => by rw [← hy (pm_cz_le.mpr q)]; exact k1) (fun q => by rw [← hn (pm_bf pm_cz_le q)]; exact k1)
    · cases h
  case if_icmp cn off =>
    rcases hk with hk | hk
    · cases hk
    subst hk
    replace h : pm_j2 cn off pc st = some (pc2, st2) := h
    unfold pm_j2 at h
    split at h
    · rename_i y x r
      obtain ⟨r0, rfl, h0⟩ := pm_rs_i hs
      obtain ⟨r1, rfl, h1⟩ := pm_rs_i h0
      obtain ⟨u, ht, rfl, hy, hn⟩ := pm_jc_ok h
      have k1 := kk _ h1
      cases cn
      · exact lv_icmp_eq hx hb hd ht (fun q => by rw [← hy (pm_cz_eq.mpr q)]; exact k1) (fun q => by rw [← hn (pm_bf pm_cz_eq q)]; exact k1)
      · exact lv_icmp_ne hx hb hd ht (fun q => by rw [← hy (pm_cz_ne.mpr q)]; exact k1) (fun q => by rw [← hn (pm_bf pm_cz_ne (fun z => z q))]; exact k1)
      · exact lv_icmp_lt hx hb hd ht (fun q => by rw [← hy (pm_cz_lt.mpr q)]; exact k1) (fun q => by rw [← hn (pm_bf pm_cz_lt q)]; exact k1)
      · exact lv_icmp_ge hx hb hd ht (fun q => by rw [← hy (pm_cz_ge.mpr q)]; exact k1) (fun q => by rw [← hn (pm_bf pm_cz_ge q)]; exact k1)
      · exact lv_icmp_gt hx hb hd ht (fun q => by rw [← hy (pm_cz_gt.mpr q)]; exact k1) (fun q => by rw [← hn (pm_bf pm_cz_gt q)]; exact k1)
      · exact lv_icmp_le hx hb hd ht (fun q => by rw [← hy (pm_cz_le.mpr q)]; exact k1) (fun q => by rw [← hn (pm_bf pm_cz_le q)]; exact k1)
    · cases h
  case ifnull off =>
    rcases hk with hk | hk
    · cases hk
    subst hk
    replace h : pm_jn off pc st = some (pc2, st2) := h
    unfold pm_jn at h
    split at h
    · obtain ⟨r1, rfl, h1⟩ := pm_rs_n hs
      obtain ⟨ht, rfl⟩ := pm_jto_ok h
      exact lv_ifnullN hx hb hd ht (kk _ h1)
    · obtain ⟨a, r1, -, rfl, h1⟩ := pm_rs_r hs
      cases h
      exact lv_ifnull hx hb hd (kk _ h1)
    · cases h
  case ifnonnull off =>
    rcases hk with hk | hk
    · cases hk
    subst hk
    replace h : pm_jm off pc st = some (pc2, st2) := h
    unfold pm_jm at h
    split at h
    · obtain ⟨r1, rfl, h1⟩ := pm_rs_n hs
      cases h
      exact lv_ifnonnullN hx hb hd (kk _ h1)
    · obtain ⟨a, r1, -, rfl, h1⟩ := pm_rs_r hs
      obtain ⟨ht, rfl⟩ := pm_jto_ok h
      exact lv_ifnonnull hx hb hd ht (kk _ h1)
    · cases h
  case tableswitch d lo hi offs =>
    replace h : pm_ts d lo hi offs pc st = some (pc2, st2) := h
    unfold pm_ts at h
    split at h
    · rename_i x r
      obtain ⟨r1, rfl, h1⟩ := pm_rs_i hs
      split at h
      · rename_i hc
        obtain ⟨ht, rfl⟩ := pm_jto_ok h
        exact lv_tableOut hx hb hd hc ht (kk _ h1)
      · rename_i hc
        split at h
        · rename_i o ho
          obtain ⟨ht, rfl⟩ := pm_jto_ok h
          exact lv_tableIn hx hb hd (fun z => hc (Or.inl z)) (fun z => hc (Or.inr z)) ho ht (kk _ h1)
        · cases h
    · cases h
  case lookupswitch d ps =>
    replace h : pm_lks d ps pc st = some (pc2, st2) := h
    unfold pm_lks at h
    split at h
    · rename_i x r
      obtain ⟨r1, rfl, h1⟩ := pm_rs_i hs
      split at h
      · rename_i hc
        obtain ⟨ht, rfl⟩ := pm_jto_ok h
        exact lv_lookup hx hb hd hc rfl ht (kk _ h1)
      · cases h
    · cases h
  all_goals exact nomatch (show (none : Option (Nat × List Value)) = some (pc2, st2) from h)
end PMJMP
end
section
/-! THE PURE MACHINE, 3: cells. A pure cell is a va_E whose array class is a number of pm_ty and whose references are places. -/
def pm_ty (t : Nat) : FieldType := match t with
  | 0 => .int
  | 1 => .boolean
  | 2 => .long
  | 3 => .object "LambdaShelf$Code"
  | _ => .byte
def pm_ro (ad : List Nat) (x y : Option Nat) : Prop := match x with
  | none => y = none
  | some k => ∃ a, ad[k]? = some a ∧ y = some a
def pm_rc (bS : Nat) (ad : List Nat) (U : State) (e e' : va_E) : Prop := match e with
  | .inl (tg, n, .inl f) => ∃ cA : ClassId, e' = .inl (cA, n, .inl f) ∧ ArrOfT U cA (pm_ty tg) ∧ va_RA U cA (pm_ty tg)
  | .inl (tg, n, .inr (.inl f)) => ∃ cA : ClassId, e' = .inl (cA, n, .inr (.inl f)) ∧ ArrOfT U cA (pm_ty tg) ∧ va_RA U cA (pm_ty tg)
  | .inl (tg, n, .inr (.inr (.inr (.inr f)))) => ∃ (cA : ClassId) (g : Nat → Option Nat), e' = .inl (cA, n, .inr (.inr (.inr (.inr g)))) ∧ (∀ j, pm_ro ad (f j) (g j)) ∧ ArrOfT U cA (pm_ty tg) ∧ va_RA U cA (pm_ty tg)
  | .inr (ci, fs) => ∃ fs' : List Value, e' = .inr (ci, fs') ∧ pm_rs bS ad fs fs'
  | _ => False
def pm_rw (bS : Nat) (ad : List Nat) (U : State) (ph : List va_E) (ws : va_W) : Prop := ws.map (fun q => q.1) = ad ∧ ph.length = ws.length ∧ ∀ (k : Nat) (e : va_E), ph[k]? = some e → ∃ (a : Nat) (e' : va_E), ws[k]? = some (a, e') ∧ pm_rc bS ad U e e'
theorem pm_ro.mono {ad ad2 : List Nat} {x y : Option Nat} (h : pm_ro ad x y) : pm_ro (ad ++ ad2) x y := by
  cases x with
  | none => exact h
  | some k => obtain ⟨a, h1, h2⟩ := h; exact ⟨a, pm_at_app h1, h2⟩
theorem pm_rc.mono {bS : Nat} {ad ad2 : List Nat} {U : State} {e e' : va_E} (h : pm_rc bS ad U e e') : pm_rc bS (ad ++ ad2) U e e' := by
  unfold pm_rc at h ⊢
  split at h
  · exact h
  · exact h
  · obtain ⟨cA, g, h1, h2, h3⟩ := h
    exact ⟨cA, g, h1, fun j => (h2 j).mono, h3⟩
  · obtain ⟨fs', h1, h2⟩ := h
    exact ⟨fs', h1, h2.mono⟩
  · exact h.elim
theorem pm_rc.moved {bS : Nat} {ad : List Nat} {u U : State} {e e' : va_E} (hvm : u.vm.Alike U.vm) (h : pm_rc bS ad u e e') : pm_rc bS ad U e e' := by
  unfold pm_rc at h ⊢
  split at h
  · obtain ⟨cA, h1, h2, h3⟩ := h
    exact ⟨cA, h1, arrOfT_moved hvm h2, h3.moved hvm⟩
  · obtain ⟨cA, h1, h2, h3⟩ := h
    exact ⟨cA, h1, arrOfT_moved hvm h2, h3.moved hvm⟩
  · obtain ⟨cA, g, h1, h4, h2, h3⟩ := h
    exact ⟨cA, g, h1, h4, arrOfT_moved hvm h2, h3.moved hvm⟩
  · exact h
  · exact h.elim
theorem pm_rw.moved {bS : Nat} {ad : List Nat} {u U : State} {ph : List va_E} {ws : va_W} (hvm : u.vm.Alike U.vm) (h : pm_rw bS ad u ph ws) : pm_rw bS ad U ph ws :=
  ⟨h.1, h.2.1, fun k e hk => by obtain ⟨a, e', h1, h2⟩ := h.2.2 k e hk; exact ⟨a, e', h1, h2.moved hvm⟩⟩
theorem pm_rw.at {bS : Nat} {ad : List Nat} {U : State} {ph : List va_E} {ws : va_W} (h : pm_rw bS ad U ph ws) {k a : Nat} {e : va_E} (hk : ph[k]? = some e) (ha : ad[k]? = some a) : ∃ e' : va_E, ws[k]? = some (a, e') ∧ pm_rc bS ad U e e' := by
  obtain ⟨a', e', h1, h2⟩ := h.2.2 k e hk
  rw [← h.1, List.getElem?_map, h1] at ha
  cases ha
  exact ⟨e', h1, h2⟩
theorem pm_rw.set {bS : Nat} {ad : List Nat} {U : State} {ph : List va_E} {ws : va_W} (h : pm_rw bS ad U ph ws) {k a : Nat} {e e0 e' : va_E} (hk : ws[k]? = some (a, e0)) (hc : pm_rc bS ad U e e') : pm_rw bS ad U (ph.set k e) (ws.set k (a, e')) := by
  refine ⟨?_, by simp [h.2.1], fun j x hj => ?_⟩
  · rw [List.map_set, h.1]
    apply List.ext_getElem?
    intro n
    rw [List.getElem?_set]
    split
    · rename_i hn
      subst hn
      have h1 : ad[k]? = some a := by rw [← h.1, List.getElem?_map, hk]; rfl
      rw [h1]
      simp [(List.getElem?_eq_some_iff.mp h1).1]
    · rfl
  · rw [List.getElem?_set] at hj
    split at hj
    · rename_i hn
      subst hn
      split at hj
      · cases hj
        exact ⟨a, e', by rw [List.getElem?_set]; simp [(List.getElem?_eq_some_iff.mp hk).1], hc⟩
      · cases hj
    · rename_i hn
      obtain ⟨a1, e1, h1, h2⟩ := h.2.2 j x hj
      exact ⟨a1, e1, by rw [List.getElem?_set, if_neg hn]; exact h1, h2⟩
theorem pm_rw.push {bS : Nat} {ad : List Nat} {U : State} {ph : List va_E} {ws : va_W} (h : pm_rw bS ad U ph ws) {q : Nat} {e e' : va_E} (hc : pm_rc bS (ad ++ [q]) U e e') : pm_rw bS (ad ++ [q]) U (ph ++ [e]) (ws ++ [(q, e')]) := by
  refine ⟨by simp [h.1], by simp [h.2.1], fun j x hj => ?_⟩
  rcases Nat.lt_or_ge j ph.length with hl | hl
  · rw [List.getElem?_append_left hl] at hj
    obtain ⟨a1, e1, h1, h2⟩ := h.2.2 j x hj
    exact ⟨a1, e1, by rw [List.getElem?_append_left (by rw [← h.2.1]; exact hl)]; exact h1, h2.mono⟩
  · rw [List.getElem?_append_right hl] at hj
    have hj0 : j = ph.length := by
      have := (List.getElem?_eq_some_iff.mp hj).1
      simp at this
      omega
    subst hj0
    rw [Nat.sub_self] at hj
    cases hj
    refine ⟨q, e', ?_, hc⟩
    rw [h.2.1, List.getElem?_append_right (Nat.le_refl _), Nat.sub_self]
    rfl
theorem pm_rw.new {bS : Nat} {ad : List Nat} {U : State} {ph : List va_E} {ws : va_W} (h : pm_rw bS ad U ph ws) (q : Nat) : (ad ++ [q])[ph.length]? = some q := by
  have hl : ad.length = ph.length := by rw [← h.1, List.length_map, h.2.1]
  rw [← hl, List.getElem?_append_right (Nat.le_refl _), Nat.sub_self]
  rfl
theorem pm_K1 {D : va_G} {cl : List vw_C} {U : State} {tys : List (ClassId × FieldType)} {cA : ClassId} {ty : FieldType} (h : va_K D cl tys U) (h1 : ArrOfT U cA ty) (h2 : va_RA U cA ty) : va_K D cl [(cA, ty)] U :=
  ⟨h.1, fun k q hk => by
    match k, hk with
    | 0, hk => cases hk; exact ⟨h1, h2⟩
    | k + 1, hk => simp at hk⟩
theorem pm_K2 {D : va_G} {cl : List vw_C} {U : State} {tys : List (ClassId × FieldType)} {cA cB : ClassId} {ty tb : FieldType} (h : va_K D cl tys U) (h1 : ArrOfT U cA ty) (h2 : va_RA U cA ty) (h3 : ArrOfT U cB tb) (h4 : va_RA U cB tb) : va_K D cl [(cA, ty), (cB, tb)] U :=
  ⟨h.1, fun k q hk => by
    match k, hk with
    | 0, hk => cases hk; exact ⟨h1, h2⟩
    | 1, hk => cases hk; exact ⟨h3, h4⟩
    | k + 2, hk => simp at hk⟩
def pm_vo (x : Option Nat) : Value := match x with
  | none => .null
  | some k => .ref k
/-- may a field of this type hold it: with no test of an int that is a variable -/
def pm_fit (ty : FieldType) (v : Value) : Bool := match ty, v with
  | .int, .int _ => true
  | .boolean, .int x => x == 0 || x == 1
  | .long, .long _ => true
  | .object _, .null => true
  | .object _, .ref _ => true
  | .array _, .null => true
  | .array _, .ref _ => true
  | _, _ => false
theorem pm_fit_ok {bS : Nat} {ad : List Nat} {ty : FieldType} {v w : Value} (h : pm_fit ty v = true) (hv : pm_rv bS ad v w) : narrow ty w = w ∧ fits ty w = true := by
  unfold pm_fit at h
  split at h
  · obtain rfl : w = _ := hv; exact ⟨rfl, rfl⟩
  · rename_i x
    obtain rfl : w = _ := hv
    rcases (by simpa using h : x = 0 ∨ x = 1) with rfl | rfl
    · exact ⟨by decide, by decide⟩
    · exact ⟨by decide, by decide⟩
  · obtain rfl : w = _ := hv; exact ⟨rfl, rfl⟩
  · obtain rfl : w = _ := hv; exact ⟨rfl, rfl⟩
  · obtain ⟨a, -, rfl⟩ := hv; exact ⟨rfl, rfl⟩
  · obtain rfl : w = _ := hv; exact ⟨rfl, rfl⟩
  · obtain ⟨a, -, rfl⟩ := hv; exact ⟨rfl, rfl⟩
  · cases h
theorem pm_rs_get {bS : Nat} {ad : List Nat} {v : Value} : ∀ {a a' : List Value} {k : Nat}, pm_rs bS ad a a' → a[k]? = some v → ∃ w, a'[k]? = some w ∧ pm_rv bS ad v w
  | [], [], _, _, h => by simp at h
  | v0 :: r, w0 :: r', 0, hr, h => by simp at h; subst h; exact ⟨w0, rfl, hr.1⟩
  | v0 :: r, w0 :: r', k + 1, hr, h => by
    obtain ⟨w, h1, h2⟩ := pm_rs_get hr.2 (by simpa using h)
    exact ⟨w, by simpa using h1, h2⟩
  | [], _ :: _, _, h, _ => h.elim
  | _ :: _, [], _, h, _ => h.elim
theorem pm_rs_set {bS : Nat} {ad : List Nat} {v w : Value} (hv : pm_rv bS ad v w) : ∀ {a a' : List Value} {k : Nat}, pm_rs bS ad a a' → pm_rs bS ad (a.set k v) (a'.set k w)
  | [], [], _, _ => trivial
  | v0 :: r, w0 :: r', 0, hr => ⟨hv, hr.2⟩
  | v0 :: r, w0 :: r', k + 1, hr => ⟨hr.1, pm_rs_set hv hr.2⟩
  | [], _ :: _, _, h => h.elim
  | _ :: _, [], _, h => h.elim
end
section
/-! THE TABLES: by program, out of the claim's own Statement. Pool numbers and code names stand here alone. -/
abbrev pm_M : Type := MethodName × ByteArray × Nat × Option FieldType × Nat × Nat × Bool × Nat × List (Nat × Instr × Nat)
abbrev pm_nm (T : pm_M) : MethodName := T.1
abbrev pm_by (T : pm_M) : ByteArray := T.2.1
abbrev pm_ml (T : pm_M) : Nat := T.2.2.1
abbrev pm_re (T : pm_M) : Option FieldType := T.2.2.2.1
abbrev pm_na (T : pm_M) : Nat := T.2.2.2.2.1
abbrev pm_cn (T : pm_M) : Nat := T.2.2.2.2.2.1
abbrev pm_ini (T : pm_M) : Bool := T.2.2.2.2.2.2.1
abbrev pm_ps (T : pm_M) : Nat := T.2.2.2.2.2.2.2.1
abbrev pm_cd (T : pm_M) : List (Nat × Instr × Nat) := T.2.2.2.2.2.2.2.2
def pm_as {α : Type} (l : List (Nat × α)) (i : Nat) : Option α := match l with
  | [] => none
  | q :: r => if q.1 = i then some q.2 else pm_as r i
theorem pm_as_mem {α : Type} {i : Nat} {v : α} : ∀ {l : List (Nat × α)}, pm_as l i = some v → (i, v) ∈ l
  | [], h => by cases h
  | q :: r, h => by
    unfold pm_as at h
    split at h
    · rename_i hq
      cases h
      rw [← hq]
      exact List.mem_cons_self
    · exact List.mem_cons_of_mem _ (pm_as_mem h)
theorem pm_getD_mem {α : Type} {l : List α} {d a : α} {k : Nat} (h : l.getD k d = a) : a = d ∨ a ∈ l := by
  rw [List.getD_eq_getElem?_getD] at h
  cases hk : l[k]? with
  | none => rw [hk] at h; exact Or.inl h.symm
  | some b => rw [hk] at h; exact Or.inr (by rw [← h]; exact List.mem_of_getElem? hk)
def pm_F0 : u_T := fun k => match k with
  | 0 => ("LambdaShelf$Abstracter", "shape", "LLambdaShelf$Shape;", true)
  | 1 => ("LambdaShelf$Abstracter", "held", "[I", true)
  | 2 => ("LambdaShelf$Abstracter", "met", "[I", true)
  | 3 => ("LambdaShelf$Abstracter", "body", "LLambdaShelf$Code;", true)
  | 4 => ("LambdaShelf$Abstracter", "made", "LLambdaShelf$Code;", true)
  | _ => ("LambdaShelf$Abstracter", "front", "I", false)
def pm_F1 : u_T := fun k => match k with
  | 0 => ("LambdaShelf$Code", "cells", "[I", true)
  | 1 => ("LambdaShelf$Code", "length", "I", false)
  | _ => ("LambdaShelf$Code", "over", "Z", false)
def pm_F2 : u_T := fun k => match k with
  | 0 => ("LambdaShelf$Reader", "items", "[I", true)
  | 1 => ("LambdaShelf$Reader", "openNames", "[I", true)
  | 2 => ("LambdaShelf$Reader", "rowsAround", "[I", true)
  | 3 => ("LambdaShelf$Reader", "tape", "LLambdaShelf$Tape;", true)
  | 4 => ("LambdaShelf$Reader", "itemCount", "I", false)
  | 5 => ("LambdaShelf$Reader", "row", "I", false)
  | 6 => ("LambdaShelf$Reader", "open", "I", false)
  | 7 => ("LambdaShelf$Reader", "inHead", "I", false)
  | 8 => ("LambdaShelf$Reader", "kind", "I", false)
  | 9 => ("LambdaShelf$Reader", "start", "I", false)
  | 10 => ("LambdaShelf$Reader", "next", "I", false)
  | 11 => ("LambdaShelf$Reader", "fault", "I", false)
  | _ => ("LambdaShelf$Reader", "faultPlace", "I", false)
def pm_F3 : u_T := fun k => match k with
  | 0 => ("LambdaShelf$Shape", "ends", "[I", true)
  | _ => ("LambdaShelf$Shape", "depths", "[I", true)
def pm_F4 : u_T := fun k => match k with
  | 0 => ("LambdaShelf$Tape", "bytes", "[I", true)
  | _ => ("LambdaShelf$Tape", "length", "I", false)
def pm_F5 : u_T := fun k => match k with
  | 0 => ("LambdaShelf$Teller", "around", "[I", true)
  | 1 => ("LambdaShelf$Teller", "aroundCount", "I", false)
  | 2 => ("LambdaShelf$Teller", "depth", "I", false)
  | 3 => ("LambdaShelf$Teller", "wanted", "I", false)
  | 4 => ("LambdaShelf$Teller", "told", "I", false)
  | _ => ("LambdaShelf$Teller", "found", "I", false)
def pm_F6 : u_T := fun k => match k with
  | 0 => ("LambdaShelf$Turner", "shape", "LLambdaShelf$Shape;", true)
  | _ => ("LambdaShelf$Turner", "made", "LLambdaShelf$Code;", true)
def pm_F7 : u_T := fun k => match k with
  | 0 => ("LambdaShelf$Typer", "shape", "LLambdaShelf$Shape;", true)
  | 1 => ("LambdaShelf$Typer", "froms", "[I", true)
  | 2 => ("LambdaShelf$Typer", "tos", "[I", true)
  | 3 => ("LambdaShelf$Typer", "links", "[I", true)
  | 4 => ("LambdaShelf$Typer", "queue", "[I", true)
  | 5 => ("LambdaShelf$Typer", "marks", "[I", true)
  | 6 => ("LambdaShelf$Typer", "binders", "[I", true)
  | 7 => ("LambdaShelf$Typer", "waiting", "[I", true)
  | 8 => ("LambdaShelf$Typer", "made", "LLambdaShelf$Code;", true)
  | 9 => ("LambdaShelf$Typer", "latest", "LLambdaShelf$Code;", true)
  | 10 => ("LambdaShelf$Typer", "nodes", "I", false)
  | 11 => ("LambdaShelf$Typer", "waitingCount", "I", false)
  | _ => ("LambdaShelf$Typer", "shared", "I", false)
def pm_F8 : u_T := fun k => match k with
  | 0 => ("LambdaShelf", "tape", "LLambdaShelf$Tape;", true)
  | 1 => ("LambdaShelf", "terms", "[LLambdaShelf$Code;", true)
  | 2 => ("LambdaShelf", "trial", "LLambdaShelf$Code;", true)
  | 3 => ("LambdaShelf", "shape", "LLambdaShelf$Shape;", true)
  | 4 => ("LambdaShelf", "reader", "LLambdaShelf$Reader;", true)
  | 5 => ("LambdaShelf", "teller", "LLambdaShelf$Teller;", true)
  | 6 => ("LambdaShelf", "turner", "LLambdaShelf$Turner;", true)
  | 7 => ("LambdaShelf", "abstracter", "LLambdaShelf$Abstracter;", false)
  | 8 => ("LambdaShelf", "typer", "LLambdaShelf$Typer;", false)
  | 9 => ("LambdaShelf", "many", "I", false)
  | 10 => ("LambdaShelf", "latestFault", "I", false)
  | 11 => ("LambdaShelf", "latestEnding", "I", false)
  | _ => ("LambdaShelf", "latestGreatest", "I", false)
def pm_F9 : u_T := fun k => match k with
  | 0 => ("LambdaShelfModel", "terms", "I", false)
  | 1 => ("LambdaShelfModel", "sizes", "[I", true)
  | 2 => ("LambdaShelfModel", "codes", "[I", true)
  | 3 => ("LambdaShelfModel", "tape", "[I", true)
  | 4 => ("LambdaShelfModel", "taped", "I", false)
  | 5 => ("LambdaShelfModel", "row", "[I", true)
  | 6 => ("LambdaShelfModel", "size", "I", false)
  | 7 => ("LambdaShelfModel", "depth", "[I", true)
  | 8 => ("LambdaShelfModel", "pending", "[I", true)
  | 9 => ("LambdaShelfModel", "at", "I", false)
  | 10 => ("LambdaShelfModel", "from", "I", false)
  | 11 => ("LambdaShelfModel", "sort", "I", false)
  | 12 => ("LambdaShelfModel", "value", "J", false)
  | 13 => ("LambdaShelfModel", "fault", "I", false)
  | 14 => ("LambdaShelfModel", "wrongAt", "I", false)
  | 15 => ("LambdaShelfModel", "begins", "[I", true)
  | 16 => ("LambdaShelfModel", "hasPart", "[Z", true)
  | 17 => ("LambdaShelfModel", "binds", "[I", true)
  | 18 => ("LambdaShelfModel", "levels", "I", false)
  | 19 => ("LambdaShelfModel", "names", "[J", true)
  | 20 => ("LambdaShelfModel", "nameMany", "I", false)
  | 21 => ("LambdaShelfModel", "opens", "I", false)
  | 22 => ("LambdaShelfModel", "text", "[I", true)
  | 23 => ("LambdaShelfModel", "textMany", "I", false)
  | 24 => ("LambdaShelfModel", "blank", "[Z", true)
  | 25 => ("LambdaShelfModel", "opened", "[Z", true)
  | 26 => ("LambdaShelfModel", "closed", "[I", true)
  | 27 => ("LambdaShelfModel", "fresh", "[I", true)
  | 28 => ("LambdaShelfModel", "freshMany", "I", false)
  | 29 => ("LambdaShelfModel", "inner", "[I", true)
  | 30 => ("LambdaShelfModel", "how", "I", false)
  | 31 => ("LambdaShelfModel", "greatest", "I", false)
  | 32 => ("LambdaShelfModel", "kinds", "I", false)
  | 33 => ("LambdaShelfModel", "became", "[I", true)
  | 34 => ("LambdaShelfModel", "left", "[I", true)
  | 35 => ("LambdaShelfModel", "right", "[I", true)
  | 36 => ("LambdaShelfModel", "firsts", "[I", true)
  | 37 => ("LambdaShelfModel", "seconds", "[I", true)
  | 38 => ("LambdaShelfModel", "mark", "[I", true)
  | 39 => ("LambdaShelfModel", "path", "[I", true)
  | 40 => ("LambdaShelfModel", "binder", "[I", true)
  | 41 => ("LambdaShelfModel", "lambdaType", "[I", true)
  | 42 => ("LambdaShelfModel", "lambdaAt", "[I", true)
  | 43 => ("LambdaShelfModel", "pile", "[I", true)
  | 44 => ("LambdaShelfModel", "type", "[I", true)
  | 45 => ("LambdaShelfModel", "typeMany", "I", false)
  | 46 => ("LambdaShelfModel", "drafted", "[I", true)
  | 47 => ("LambdaShelfModel", "numbered", "[I", true)
  | _ => ("LambdaShelfModel", "waiting", "[I", true)
abbrev pm_cl : List vw_C := [("LambdaShelf$Abstracter", pm_F0, 6), ("LambdaShelf$Code", pm_F1, 3), ("LambdaShelf$Reader", pm_F2, 13), ("LambdaShelf$Shape", pm_F3, 2), ("LambdaShelf$Tape", pm_F4, 2), ("LambdaShelf$Teller", pm_F5, 6), ("LambdaShelf$Turner", pm_F6, 2), ("LambdaShelf$Typer", pm_F7, 13), ("LambdaShelf", pm_F8, 13), ("LambdaShelfModel", pm_F9, 49)]
def pm_fts : List (List FieldType) := [[.object "LambdaShelf$Shape", .array .int, .array .int, .object "LambdaShelf$Code", .object "LambdaShelf$Code", .int], [.array .int, .int, .boolean], [.array .int, .array .int, .array .int, .object "LambdaShelf$Tape", .int, .int, .int, .int, .int, .int, .int, .int, .int], [.array .int, .array .int], [.array .int, .int], [.array .int, .int, .int, .int, .int, .int], [.object "LambdaShelf$Shape", .object "LambdaShelf$Code"], [.object "LambdaShelf$Shape", .array .int, .array .int, .array .int, .array .int, .array .int, .array .int, .array .int, .object "LambdaShelf$Code", .object "LambdaShelf$Code", .int, .int, .int], [.object "LambdaShelf$Tape", .array (.object "LambdaShelf$Code"), .object "LambdaShelf$Code", .object "LambdaShelf$Shape", .object "LambdaShelf$Reader", .object "LambdaShelf$Teller", .object "LambdaShelf$Turner", .object "LambdaShelf$Abstracter", .object "LambdaShelf$Typer", .int, .int, .int, .int], [.int, .array .int, .array .int, .array .int, .int, .array .int, .int, .array .int, .array .int, .int, .int, .int, .long, .int, .int, .array .int, .array .boolean, .array .int, .int, .array .long, .int, .int, .array .int, .int, .array .boolean, .array .boolean, .array .int, .array .int, .int, .array .int, .int, .int, .int, .array .int, .array .int, .array .int, .array .int, .array .int, .array .int, .array .int, .array .int, .array .int, .array .int, .array .int, .array .int, .int, .array .int, .array .int, .array .int]]
def pm_dfs : List (List Value) := [[.null, .null, .null, .null, .null, .int 0], [.null, .int 0, .int 0], [.null, .null, .null, .null, .int 0, .int 0, .int 0, .int 0, .int 0, .int 0, .int 0, .int 0, .int 0], [.null, .null], [.null, .int 0], [.null, .int 0, .int 0, .int 0, .int 0, .int 0], [.null, .null], [.null, .null, .null, .null, .null, .null, .null, .null, .null, .null, .int 0, .int 0, .int 0], [.null, .null, .null, .null, .null, .null, .null, .null, .null, .int 0, .int 0, .int 0, .int 0], [.int 0, .null, .null, .null, .int 0, .null, .int 0, .null, .null, .int 0, .int 0, .int 0, .long 0, .int 0, .int 0, .null, .null, .null, .int 0, .null, .int 0, .int 0, .null, .int 0, .null, .null, .null, .null, .int 0, .null, .int 0, .int 0, .int 0, .null, .null, .null, .null, .null, .null, .null, .null, .null, .null, .null, .null, .int 0, .null, .null, .null]]
def pm_fty (ci k : Nat) : FieldType := (pm_fts.getD ci []).getD k .byte
def pm_cC : Nat := 1
def pm_cc0 : List (Nat × Instr × Nat) := [(0, .new 7, 3), (3, .dup, 1), (4, .invokespecial 9, 3), (7, .astore_n 1, 1), (8, .new 10, 3), (11, .dup, 1), (12, .invokespecial 12, 3), (15, .astore_n 2, 1), (16, .iconst 0, 1), (17, .istore_n 3, 1), (18, .iload_n 3, 1), (19, .aload_n 0, 1), (20, .arraylength, 1), (21, .bipush 6, 2), (23, .isub, 1), (24, .if_icmp .gt 761, 3), (27, .aload_n 0, 1), (28, .iload_n 3, 1), (29, .iaload, 1), (30, .bipush 31, 2), (32, .iand, 1), (33, .tableswitch 746 0 22 #[107, 170, 193, 206, 219, 242, 275, 308, 341, 364, 397, 430, 473, 496, 529, 552, 575, 598, 631, 654, 677, 710, 723], 107), (140, .aload_n 1, 1), (141, .aload_n 0, 1), (142, .iload_n 3, 1), (143, .iconst 1, 1), (144, .iadd, 1), (145, .iaload, 1), (146, .aload_n 0, 1), (147, .iload_n 3, 1), (148, .iconst 2, 1), (149, .iadd, 1), (150, .iaload, 1), (151, .aload_n 0, 1), (152, .iload_n 3, 1), (153, .iconst 3, 1), (154, .iadd, 1), (155, .iaload, 1), (156, .aload_n 0, 1), (157, .iload_n 3, 1), (158, .iconst 4, 1), (159, .iadd, 1), (160, .iaload, 1), (161, .aload_n 0, 1), (162, .iload_n 3, 1), (163, .iconst 5, 1), (164, .iadd, 1), (165, .iaload, 1), (166, .invokevirtual 13, 3), (169, .aload_n 2, 1), (170, .aload_n 0, 1), (171, .iload_n 3, 1), (172, .iconst 1, 1), (173, .iadd, 1), (174, .iaload, 1), (175, .aload_n 0, 1), (176, .iload_n 3, 1), (177, .iconst 2, 1), (178, .iadd, 1), (179, .iaload, 1), (180, .aload_n 0, 1), (181, .iload_n 3, 1), (182, .iconst 3, 1), (183, .iadd, 1), (184, .iaload, 1), (185, .aload_n 0, 1), (186, .iload_n 3, 1), (187, .iconst 4, 1), (188, .iadd, 1), (189, .iaload, 1), (190, .aload_n 0, 1), (191, .iload_n 3, 1), (192, .iconst 5, 1), (193, .iadd, 1), (194, .iaload, 1), (195, .invokevirtual 17, 3), (198, .if_icmp .eq 581, 3), (203, .aload_n 1, 1), (204, .aload_n 0, 1), (205, .iload_n 3, 1), (206, .iconst 1, 1), (207, .iadd, 1), (208, .iaload, 1), (209, .invokevirtual 18, 3), (212, .aload_n 2, 1), (213, .aload_n 0, 1), (214, .iload_n 3, 1), (215, .iconst 1, 1), (216, .iadd, 1), (217, .iaload, 1), (218, .invokevirtual 22, 3), (221, .if_icmp .eq 558, 3), (226, .aload_n 1, 1), (227, .invokevirtual 23, 3), (230, .aload_n 2, 1), (231, .invokevirtual 27, 3), (234, .if_icmp .eq 545, 3), (239, .aload_n 1, 1), (240, .invokevirtual 28, 3), (243, .aload_n 2, 1), (244, .invokevirtual 31, 3), (247, .if_icmp .eq 532, 3), (252, .aload_n 1, 1), (253, .aload_n 0, 1), (254, .iload_n 3, 1), (255, .iconst 1, 1), (256, .iadd, 1), (257, .iaload, 1), (258, .invokevirtual 32, 3), (261, .aload_n 2, 1), (262, .aload_n 0, 1), (263, .iload_n 3, 1), (264, .iconst 1, 1), (265, .iadd, 1), (266, .iaload, 1), (267, .invokevirtual 35, 3), (270, .if_icmp .eq 509, 3), (275, .aload_n 1, 1), (276, .aload_n 0, 1), (277, .iload_n 3, 1), (278, .iconst 1, 1), (279, .iadd, 1), (280, .iaload, 1), (281, .aload_n 0, 1), (282, .iload_n 3, 1), (283, .iconst 2, 1), (284, .iadd, 1), (285, .iaload, 1), (286, .invokevirtual 36, 3), (289, .aload_n 2, 1), (290, .aload_n 0, 1), (291, .iload_n 3, 1), (292, .iconst 1, 1), (293, .iadd, 1), (294, .iaload, 1), (295, .aload_n 0, 1), (296, .iload_n 3, 1), (297, .iconst 2, 1), (298, .iadd, 1), (299, .iaload, 1), (300, .invokevirtual 40, 3), (303, .if_icmp .eq 476, 3), (308, .aload_n 1, 1), (309, .aload_n 0, 1), (310, .iload_n 3, 1), (311, .iconst 1, 1), (312, .iadd, 1), (313, .iaload, 1), (314, .aload_n 0, 1), (315, .iload_n 3, 1), (316, .iconst 2, 1), (317, .iadd, 1), (318, .iaload, 1), (319, .invokevirtual 41, 3), (322, .aload_n 2, 1), (323, .aload_n 0, 1), (324, .iload_n 3, 1), (325, .iconst 1, 1), (326, .iadd, 1), (327, .iaload, 1), (328, .aload_n 0, 1), (329, .iload_n 3, 1), (330, .iconst 2, 1), (331, .iadd, 1), (332, .iaload, 1), (333, .invokevirtual 44, 3), (336, .if_icmp .eq 443, 3), (341, .aload_n 1, 1), (342, .aload_n 0, 1), (343, .iload_n 3, 1), (344, .iconst 1, 1), (345, .iadd, 1), (346, .iaload, 1), (347, .aload_n 0, 1), (348, .iload_n 3, 1), (349, .iconst 2, 1), (350, .iadd, 1), (351, .iaload, 1), (352, .invokevirtual 45, 3), (355, .aload_n 2, 1), (356, .aload_n 0, 1), (357, .iload_n 3, 1), (358, .iconst 1, 1), (359, .iadd, 1), (360, .iaload, 1), (361, .aload_n 0, 1), (362, .iload_n 3, 1), (363, .iconst 2, 1), (364, .iadd, 1), (365, .iaload, 1), (366, .invokevirtual 48, 3), (369, .if_icmp .eq 410, 3), (374, .aload_n 1, 1), (375, .aload_n 0, 1), (376, .iload_n 3, 1), (377, .iconst 1, 1), (378, .iadd, 1), (379, .iaload, 1), (380, .invokevirtual 49, 3), (383, .aload_n 2, 1), (384, .aload_n 0, 1), (385, .iload_n 3, 1), (386, .iconst 1, 1), (387, .iadd, 1), (388, .iaload, 1), (389, .invokevirtual 52, 3), (392, .if_icmp .eq 387, 3), (397, .aload_n 1, 1), (398, .aload_n 0, 1), (399, .iload_n 3, 1), (400, .iconst 1, 1), (401, .iadd, 1), (402, .iaload, 1), (403, .aload_n 0, 1), (404, .iload_n 3, 1), (405, .iconst 2, 1), (406, .iadd, 1), (407, .iaload, 1), (408, .invokevirtual 53, 3), (411, .aload_n 2, 1), (412, .aload_n 0, 1), (413, .iload_n 3, 1), (414, .iconst 1, 1), (415, .iadd, 1), (416, .iaload, 1), (417, .aload_n 0, 1), (418, .iload_n 3, 1), (419, .iconst 2, 1), (420, .iadd, 1), (421, .iaload, 1), (422, .invokevirtual 56, 3), (425, .if_icmp .eq 354, 3), (430, .aload_n 1, 1), (431, .aload_n 0, 1), (432, .iload_n 3, 1), (433, .iconst 1, 1), (434, .iadd, 1), (435, .iaload, 1), (436, .aload_n 0, 1), (437, .iload_n 3, 1), (438, .iconst 2, 1), (439, .iadd, 1), (440, .iaload, 1), (441, .invokevirtual 57, 3), (444, .aload_n 2, 1), (445, .aload_n 0, 1), (446, .iload_n 3, 1), (447, .iconst 1, 1), (448, .iadd, 1), (449, .iaload, 1), (450, .aload_n 0, 1), (451, .iload_n 3, 1), (452, .iconst 2, 1), (453, .iadd, 1), (454, .iaload, 1), (455, .invokevirtual 60, 3), (458, .if_icmp .eq 321, 3), (463, .aload_n 1, 1), (464, .aload_n 0, 1), (465, .iload_n 3, 1), (466, .iconst 1, 1), (467, .iadd, 1), (468, .iaload, 1), (469, .aload_n 0, 1), (470, .iload_n 3, 1), (471, .iconst 2, 1), (472, .iadd, 1), (473, .iaload, 1), (474, .aload_n 0, 1), (475, .iload_n 3, 1), (476, .iconst 3, 1), (477, .iadd, 1), (478, .iaload, 1), (479, .invokevirtual 61, 3), (482, .aload_n 2, 1), (483, .aload_n 0, 1), (484, .iload_n 3, 1), (485, .iconst 1, 1), (486, .iadd, 1), (487, .iaload, 1), (488, .aload_n 0, 1), (489, .iload_n 3, 1), (490, .iconst 2, 1), (491, .iadd, 1), (492, .iaload, 1), (493, .aload_n 0, 1), (494, .iload_n 3, 1), (495, .iconst 3, 1), (496, .iadd, 1), (497, .iaload, 1), (498, .invokevirtual 65, 3), (501, .if_icmp .eq 278, 3), (506, .aload_n 1, 1), (507, .aload_n 0, 1), (508, .iload_n 3, 1), (509, .iconst 1, 1), (510, .iadd, 1), (511, .iaload, 1), (512, .invokevirtual 66, 3), (515, .aload_n 2, 1), (516, .aload_n 0, 1), (517, .iload_n 3, 1), (518, .iconst 1, 1), (519, .iadd, 1), (520, .iaload, 1), (521, .invokevirtual 69, 3), (524, .if_icmp .eq 255, 3), (529, .aload_n 1, 1), (530, .aload_n 0, 1), (531, .iload_n 3, 1), (532, .iconst 1, 1), (533, .iadd, 1), (534, .iaload, 1), (535, .aload_n 0, 1), (536, .iload_n 3, 1), (537, .iconst 2, 1), (538, .iadd, 1), (539, .iaload, 1), (540, .invokevirtual 70, 3), (543, .aload_n 2, 1), (544, .aload_n 0, 1), (545, .iload_n 3, 1), (546, .iconst 1, 1), (547, .iadd, 1), (548, .iaload, 1), (549, .aload_n 0, 1), (550, .iload_n 3, 1), (551, .iconst 2, 1), (552, .iadd, 1), (553, .iaload, 1), (554, .invokevirtual 73, 3), (557, .if_icmp .eq 222, 3), (562, .aload_n 1, 1), (563, .aload_n 0, 1), (564, .iload_n 3, 1), (565, .iconst 1, 1), (566, .iadd, 1), (567, .iaload, 1), (568, .invokevirtual 74, 3), (571, .aload_n 2, 1), (572, .aload_n 0, 1), (573, .iload_n 3, 1), (574, .iconst 1, 1), (575, .iadd, 1), (576, .iaload, 1), (577, .invokevirtual 77, 3), (580, .if_icmp .eq 199, 3), (585, .aload_n 1, 1), (586, .aload_n 0, 1), (587, .iload_n 3, 1), (588, .iconst 1, 1), (589, .iadd, 1), (590, .iaload, 1), (591, .invokevirtual 78, 3), (594, .aload_n 2, 1), (595, .aload_n 0, 1), (596, .iload_n 3, 1), (597, .iconst 1, 1), (598, .iadd, 1), (599, .iaload, 1), (600, .invokevirtual 81, 3), (603, .if_icmp .eq 176, 3), (608, .aload_n 1, 1), (609, .aload_n 0, 1), (610, .iload_n 3, 1), (611, .iconst 1, 1), (612, .iadd, 1), (613, .iaload, 1), (614, .invokevirtual 82, 3), (617, .aload_n 2, 1), (618, .aload_n 0, 1), (619, .iload_n 3, 1), (620, .iconst 1, 1), (621, .iadd, 1), (622, .iaload, 1), (623, .invokevirtual 85, 3), (626, .if_icmp .eq 153, 3), (631, .aload_n 1, 1), (632, .aload_n 0, 1), (633, .iload_n 3, 1), (634, .iconst 1, 1), (635, .iadd, 1), (636, .iaload, 1), (637, .aload_n 0, 1), (638, .iload_n 3, 1), (639, .iconst 2, 1), (640, .iadd, 1), (641, .iaload, 1), (642, .invokevirtual 86, 3), (645, .aload_n 2, 1), (646, .aload_n 0, 1), (647, .iload_n 3, 1), (648, .iconst 1, 1), (649, .iadd, 1), (650, .iaload, 1), (651, .aload_n 0, 1), (652, .iload_n 3, 1), (653, .iconst 2, 1), (654, .iadd, 1), (655, .iaload, 1), (656, .invokevirtual 89, 3), (659, .if_icmp .eq 120, 3), (664, .aload_n 1, 1), (665, .aload_n 0, 1), (666, .iload_n 3, 1), (667, .iconst 1, 1), (668, .iadd, 1), (669, .iaload, 1), (670, .invokevirtual 90, 3), (673, .aload_n 2, 1), (674, .aload_n 0, 1), (675, .iload_n 3, 1), (676, .iconst 1, 1), (677, .iadd, 1), (678, .iaload, 1), (679, .invokevirtual 93, 3), (682, .if_icmp .eq 97, 3), (687, .aload_n 1, 1), (688, .aload_n 0, 1), (689, .iload_n 3, 1), (690, .iconst 1, 1), (691, .iadd, 1), (692, .iaload, 1), (693, .invokevirtual 94, 3), (696, .aload_n 2, 1), (697, .aload_n 0, 1), (698, .iload_n 3, 1), (699, .iconst 1, 1), (700, .iadd, 1), (701, .iaload, 1), (702, .invokevirtual 97, 3), (705, .if_icmp .eq 74, 3), (710, .aload_n 1, 1), (711, .aload_n 0, 1), (712, .iload_n 3, 1), (713, .iconst 1, 1), (714, .iadd, 1), (715, .iaload, 1), (716, .aload_n 0, 1), (717, .iload_n 3, 1), (718, .iconst 2, 1), (719, .iadd, 1), (720, .iaload, 1), (721, .invokevirtual 98, 3), (724, .aload_n 2, 1), (725, .aload_n 0, 1), (726, .iload_n 3, 1), (727, .iconst 1, 1), (728, .iadd, 1), (729, .iaload, 1), (730, .aload_n 0, 1), (731, .iload_n 3, 1), (732, .iconst 2, 1), (733, .iadd, 1), (734, .iaload, 1), (735, .invokevirtual 101, 3), (738, .if_icmp .eq 41, 3), (743, .aload_n 1, 1), (744, .invokevirtual 102, 3), (747, .aload_n 2, 1), (748, .invokevirtual 105, 3), (751, .if_icmp .eq 28, 3), (756, .aload_n 1, 1), (757, .aload_n 0, 1), (758, .iload_n 3, 1), (759, .iconst 1, 1), (760, .iadd, 1), (761, .iaload, 1), (762, .invokevirtual 106, 3), (765, .aload_n 2, 1), (766, .aload_n 0, 1), (767, .iload_n 3, 1), (768, .iconst 1, 1), (769, .iadd, 1), (770, .iaload, 1), (771, .invokevirtual 109, 3), (774, .if_icmp .eq 5, 3), (779, .iinc 3 6, 3), (782, .goto (-764), 3), (785, .iconst 1, 1), (786, .ireturn, 1)]
def pm_mm0 : pm_M := (x, code, maxLocals, ret, 1, 10, false, 0, pm_cc0)
def pm_cc1 : List (Nat × Instr × Nat) := [(0, .aload_n 0, 1), (1, .invokespecial 1, 3), (4, .aload_n 0, 1), (5, .new 7, 3), (8, .dup, 1), (9, .invokespecial 9, 3), (12, .putfield 10, 3), (15, .aload_n 0, 1), (16, .bipush 32, 2), (18, .anewarray 16, 3), (21, .putfield 18, 3), (24, .aload_n 0, 1), (25, .new 16, 3), (28, .dup, 1), (29, .sipush 500, 3), (32, .invokespecial 22, 3), (35, .putfield 25, 3), (38, .aload_n 0, 1), (39, .new 29, 3), (42, .dup, 1), (43, .invokespecial 31, 3), (46, .putfield 32, 3), (49, .aload_n 0, 1), (50, .new 36, 3), (53, .dup, 1), (54, .aload_n 0, 1), (55, .getfield 10, 3), (58, .invokespecial 38, 3), (61, .putfield 41, 3), (64, .aload_n 0, 1), (65, .new 45, 3), (68, .dup, 1), (69, .invokespecial 47, 3), (72, .putfield 48, 3), (75, .aload_n 0, 1), (76, .new 52, 3), (79, .dup, 1), (80, .aload_n 0, 1), (81, .getfield 32, 3), (84, .invokespecial 54, 3), (87, .putfield 57, 3), (90, .return_, 1)]
def pm_mm1 : pm_M := (⟨"LambdaShelf", "<init>", "()V"⟩, prog_1_method_1_code, 1, (Option.none : Option FieldType), 0, 8, true, 144, pm_cc1)
def pm_cc2 : List (Nat × Instr × Nat) := [(0, .aload_n 0, 1), (1, .invokespecial 3, 3), (4, .aload_n 0, 1), (5, .sipush 600, 3), (8, .newarray .int, 2), (10, .putfield 9, 3), (13, .return_, 1)]
def pm_mm2 : pm_M := (⟨"LambdaShelf$Tape", "<init>", "()V"⟩, prog_6_method_1_code, 1, (Option.none : Option FieldType), 0, 4, true, 152, pm_cc2)
def pm_cc3 : List (Nat × Instr × Nat) := [(0, .aload_n 0, 1), (1, .invokespecial 3, 3), (4, .aload_n 0, 1), (5, .iload_n 1, 1), (6, .iconst 0, 1), (7, .invokestatic 9, 3), (10, .newarray .int, 2), (12, .putfield 15, 3), (15, .return_, 1)]
def pm_mm3 : pm_M := (⟨"LambdaShelf$Code", "<init>", "(I)V"⟩, prog_3_method_1_code, 2, (Option.none : Option FieldType), 1, 1, true, 169, pm_cc3)
def pm_cc4 : List (Nat × Instr × Nat) := [(0, .aload_n 0, 1), (1, .invokespecial 3, 3), (4, .aload_n 0, 1), (5, .sipush 502, 3), (8, .newarray .int, 2), (10, .putfield 11, 3), (13, .aload_n 0, 1), (14, .sipush 502, 3), (17, .newarray .int, 2), (19, .putfield 17, 3), (22, .return_, 1)]
def pm_mm4 : pm_M := (⟨"LambdaShelf$Shape", "<init>", "()V"⟩, prog_5_method_1_code, 1, (Option.none : Option FieldType), 0, 3, true, 199, pm_cc4)
def pm_cc5 : List (Nat × Instr × Nat) := [(0, .aload_n 0, 1), (1, .invokespecial 3, 3), (4, .aload_n 0, 1), (5, .sipush 601, 3), (8, .newarray .int, 2), (10, .putfield 9, 3), (13, .aload_n 0, 1), (14, .bipush 40, 2), (16, .newarray .int, 2), (18, .putfield 15, 3), (21, .aload_n 0, 1), (22, .bipush 40, 2), (24, .newarray .int, 2), (26, .putfield 18, 3), (29, .aload_n 0, 1), (30, .aload_n 1, 1), (31, .putfield 21, 3), (34, .return_, 1)]
def pm_mm5 : pm_M := (⟨"LambdaShelf$Reader", "<init>", "(LLambdaShelf$Tape;)V"⟩, prog_4_method_1_code, 2, (Option.none : Option FieldType), 1, 2, true, 212, pm_cc5)
def pm_cc6 : List (Nat × Instr × Nat) := [(0, .aload_n 0, 1), (1, .invokespecial 3, 3), (4, .aload_n 0, 1), (5, .sipush 500, 3), (8, .newarray .int, 2), (10, .putfield 9, 3), (13, .return_, 1)]
def pm_mm6 : pm_M := (⟨"LambdaShelf$Teller", "<init>", "()V"⟩, prog_7_method_1_code, 1, (Option.none : Option FieldType), 0, 5, true, 259, pm_cc6)
def pm_cc7 : List (Nat × Instr × Nat) := [(0, .aload_n 0, 1), (1, .invokespecial 3, 3), (4, .aload_n 0, 1), (5, .new 9, 3), (8, .dup, 1), (9, .sipush 500, 3), (12, .invokespecial 11, 3), (15, .putfield 14, 3), (18, .aload_n 0, 1), (19, .aload_n 1, 1), (20, .putfield 20, 3), (23, .return_, 1)]
def pm_mm7 : pm_M := (⟨"LambdaShelf$Turner", "<init>", "(LLambdaShelf$Shape;)V"⟩, prog_8_method_1_code, 2, (Option.none : Option FieldType), 1, 6, true, 284, pm_cc7)
def pm_cc8 : List (Nat × Instr × Nat) := [(0, .aload_n 0, 1), (1, .getfield 10, 3), (4, .getfield 61, 3), (7, .bipush 20, 2), (9, .iadd, 1), (10, .sipush 600, 3), (13, .if_icmp .le 6, 3), (19, .aload_n 0, 1), (20, .getfield 10, 3), (23, .iload_n 1, 1), (24, .invokevirtual 65, 3), (27, .aload_n 0, 1), (28, .getfield 10, 3), (31, .iload_n 2, 1), (32, .invokevirtual 65, 3), (35, .aload_n 0, 1), (36, .getfield 10, 3), (39, .iload_n 3, 1), (40, .invokevirtual 65, 3), (43, .aload_n 0, 1), (44, .getfield 10, 3), (47, .iload 4, 2), (49, .invokevirtual 65, 3), (52, .aload_n 0, 1), (53, .getfield 10, 3), (56, .iload 5, 2), (58, .invokevirtual 65, 3), (61, .aload_n 0, 1), (62, .getfield 10, 3), (65, .getfield 61, 3), (68, .ireturn, 1)]
def pm_mm8 : pm_M := (⟨"LambdaShelf", "feed", "(IIIII)I"⟩, prog_1_method_2_code, 6, (Option.some FieldType.int), 5, 8, false, 338, pm_cc8)
def pm_cc9 : List (Nat × Instr × Nat) := [(0, .bipush 24, 2), (2, .istore_n 2, 1), (3, .iload_n 2, 1), (4, .ifCond .lt 47, 3), (7, .aload_n 0, 1), (8, .getfield 15, 3), (11, .aload_n 0, 1), (12, .getfield 9, 3), (15, .arraylength, 1), (16, .if_icmp .ge 29, 3), (19, .aload_n 0, 1), (20, .getfield 9, 3), (23, .aload_n 0, 1), (24, .getfield 15, 3), (27, .iload_n 1, 1), (28, .iload_n 2, 1), (29, .iushr, 1), (30, .sipush 255, 3), (33, .iand, 1), (34, .iastore, 1), (35, .aload_n 0, 1), (36, .dup, 1), (37, .getfield 15, 3), (40, .iconst 1, 1), (41, .iadd, 1), (42, .putfield 15, 3), (45, .iinc 2 (-8), 3), (48, .goto (-45), 3), (51, .return_, 1)]
def pm_mm9 : pm_M := (⟨"LambdaShelf$Tape", "putFour", "(I)V"⟩, prog_6_method_2_code, 3, (Option.none : Option FieldType), 1, 4, false, 342, pm_cc9)
def pm_cc10 : List (Nat × Instr × Nat) := [(0, .iload_n 1, 1), (1, .ifCond .lt 14, 3), (4, .iload_n 1, 1), (5, .aload_n 0, 1), (6, .getfield 10, 3), (9, .getfield 61, 3), (12, .if_icmp .le 5, 3), (15, .iconst (-1), 1), (16, .ireturn, 1), (17, .aload_n 0, 1), (18, .getfield 10, 3), (21, .getfield 61, 3), (24, .istore_n 2, 1), (25, .aload_n 0, 1), (26, .getfield 10, 3), (29, .iload_n 1, 1), (30, .putfield 61, 3), (33, .iload_n 2, 1), (34, .ireturn, 1)]
def pm_mm10 : pm_M := (⟨"LambdaShelf", "end", "(I)I"⟩, prog_1_method_3_code, 3, (Option.some FieldType.int), 1, 8, false, 346, pm_cc10)
def pm_cc11 : List (Nat × Instr × Nat) := [(0, .aload_n 0, 1), (1, .invokevirtual 68, 3), (4, .astore_n 1, 1), (5, .aload_n 1, 1), (6, .ifnonnull 6, 3), (12, .aload_n 0, 1), (13, .aload_n 0, 1), (14, .getfield 41, 3), (17, .aload_n 1, 1), (18, .invokevirtual 72, 3), (21, .putfield 76, 3), (24, .aload_n 0, 1), (25, .getfield 10, 3), (28, .iconst 0, 1), (29, .putfield 61, 3), (32, .aload_n 0, 1), (33, .getfield 76, 3), (36, .ifCond .ne 10, 3), (46, .bipush (-10), 2), (48, .aload_n 0, 1), (49, .getfield 41, 3), (52, .getfield 83, 3), (55, .isub, 1), (56, .ireturn, 1)]
def pm_mm11 : pm_M := (⟨"LambdaShelf", "term", "()I"⟩, prog_1_method_4_code, 2, (Option.some FieldType.int), 0, 8, false, 350, pm_cc11)
def pm_cc12 : List (Nat × Instr × Nat) := [(0, .aload_n 0, 1), (1, .getfield 179, 3), (4, .ifCond .lt 15, 3), (7, .aload_n 0, 1), (8, .getfield 179, 3), (11, .aload_n 0, 1), (12, .getfield 18, 3), (15, .arraylength, 1), (16, .if_icmp .lt 5, 3), (21, .aload_n 0, 1), (22, .getfield 18, 3), (25, .aload_n 0, 1), (26, .getfield 179, 3), (29, .aaload, 1), (30, .astore_n 1, 1), (31, .aload_n 1, 1), (32, .ifnonnull 24, 3), (35, .new 16, 3), (38, .dup, 1), (39, .sipush 500, 3), (42, .invokespecial 22, 3), (45, .astore_n 1, 1), (46, .aload_n 0, 1), (47, .getfield 18, 3), (50, .aload_n 0, 1), (51, .getfield 179, 3), (54, .aload_n 1, 1), (55, .aastore, 1), (56, .aload_n 1, 1), (57, .invokevirtual 185, 3), (60, .aload_n 1, 1), (61, .areturn, 1)]
def pm_mm12 : pm_M := (⟨"LambdaShelf", "freshTerm", "()LLambdaShelf$Code;"⟩, prog_1_method_26_code, 2, (Option.some (FieldType.object "LambdaShelf$Code")), 0, 8, false, 354, pm_cc12)
def pm_cc13 : List (Nat × Instr × Nat) := [(0, .aload_n 0, 1), (1, .iconst 0, 1), (2, .putfield 21, 3), (5, .aload_n 0, 1), (6, .iconst 0, 1), (7, .putfield 25, 3), (10, .return_, 1)]
def pm_mm13 : pm_M := (⟨"LambdaShelf$Code", "clear", "()V"⟩, prog_3_method_3_code, 1, (Option.none : Option FieldType), 0, 1, false, 358, pm_cc13)
def pm_cc14 : List (Nat × Instr × Nat) := [(0, .aload_n 0, 1), (1, .iconst 0, 1), (2, .putfield 25, 3), (5, .aload_n 0, 1), (6, .iconst 0, 1), (7, .putfield 29, 3), (10, .aload_n 0, 1), (11, .iconst 0, 1), (12, .putfield 32, 3), (15, .aload_n 0, 1), (16, .iconst 0, 1), (17, .putfield 35, 3), (20, .aload_n 0, 1), (21, .iconst 0, 1), (22, .putfield 38, 3), (25, .aload_n 0, 1), (26, .iconst 0, 1), (27, .putfield 41, 3), (30, .aload_n 0, 1), (31, .invokevirtual 44, 3), (34, .aload_n 0, 1), (35, .invokevirtual 47, 3), (38, .aload_n 0, 1), (39, .getfield 38, 3), (42, .ifCond .ne 8, 3), (50, .aload_n 0, 1), (51, .getfield 38, 3), (54, .ireturn, 1)]
def pm_mm14 : pm_M := (⟨"LambdaShelf$Reader", "readInto", "(LLambdaShelf$Code;)I"⟩, prog_4_method_2_code, 2, (Option.some FieldType.int), 1, 2, false, 362, pm_cc14)
def pm_cc15 : List (Nat × Instr × Nat) := [(0, .aload_n 0, 1), (1, .aload_n 0, 1), (2, .getfield 25, 3), (5, .putfield 140, 3), (8, .aload_n 0, 1), (9, .iconst 0, 1), (10, .invokevirtual 121, 3), (13, .return_, 1)]
def pm_mm15 : pm_M := (⟨"LambdaShelf$Reader", "startRow", "()V"⟩, prog_4_method_18_code, 1, (Option.none : Option FieldType), 0, 2, false, 366, pm_cc15)
def pm_cc16 : List (Nat × Instr × Nat) := [(0, .aload_n 0, 1), (1, .getfield 25, 3), (4, .ifCond .lt 35, 3), (7, .aload_n 0, 1), (8, .getfield 25, 3), (11, .aload_n 0, 1), (12, .getfield 9, 3), (15, .arraylength, 1), (16, .if_icmp .ge 23, 3), (19, .aload_n 0, 1), (20, .getfield 9, 3), (23, .aload_n 0, 1), (24, .getfield 25, 3), (27, .iload_n 1, 1), (28, .iastore, 1), (29, .aload_n 0, 1), (30, .dup, 1), (31, .getfield 25, 3), (34, .iconst 1, 1), (35, .iadd, 1), (36, .putfield 25, 3), (39, .return_, 1)]
def pm_mm16 : pm_M := (⟨"LambdaShelf$Reader", "putItem", "(I)V"⟩, prog_4_method_21_code, 2, (Option.none : Option FieldType), 1, 2, false, 370, pm_cc16)
def pm_cc17 : List (Nat × Instr × Nat) := [(0, .aload_n 0, 1), (1, .iconst 4, 1), (2, .putfield 54, 3), (5, .iconst 0, 1), (6, .istore_n 1, 1), (7, .iload_n 1, 1), (8, .sipush 600, 3), (11, .if_icmp .gt 38, 3), (14, .aload_n 0, 1), (15, .getfield 54, 3), (18, .ifCond .eq 31, 3), (21, .aload_n 0, 1), (22, .getfield 38, 3), (25, .ifCond .ne 24, 3), (28, .aload_n 0, 1), (29, .invokevirtual 57, 3), (32, .aload_n 0, 1), (33, .getfield 38, 3), (36, .ifCond .ne 7, 3), (39, .aload_n 0, 1), (40, .invokevirtual 60, 3), (43, .iinc 1 1, 3), (46, .goto (-39), 3), (49, .return_, 1)]
def pm_mm17 : pm_M := (⟨"LambdaShelf$Reader", "takeTokens", "()V"⟩, prog_4_method_3_code, 2, (Option.none : Option FieldType), 0, 2, false, 374, pm_cc17)
def pm_cc18 : List (Nat × Instr × Nat) := [(0, .aload_n 0, 1), (1, .getfield 35, 3), (4, .aload_n 0, 1), (5, .getfield 21, 3), (8, .getfield 63, 3), (11, .if_icmp .ge 32, 3), (43, .aload_n 0, 1), (44, .aload_n 0, 1), (45, .getfield 35, 3), (48, .putfield 72, 3), (51, .aload_n 0, 1), (52, .getfield 21, 3), (55, .aload_n 0, 1), (56, .getfield 72, 3), (59, .invokevirtual 68, 3), (62, .istore_n 1, 1), (63, .aload_n 0, 1), (64, .getfield 72, 3), (67, .aload_n 0, 1), (68, .getfield 21, 3), (71, .getfield 63, 3), (74, .if_icmp .lt 11, 3), (77, .aload_n 0, 1), (78, .iconst 0, 1), (79, .putfield 54, 3), (82, .goto 106, 3), (188, .return_, 1)]
def pm_mm18 : pm_M := (⟨"LambdaShelf$Reader", "findToken", "()V"⟩, prog_4_method_4_code, 2, (Option.none : Option FieldType), 0, 2, false, 378, pm_cc18)
def pm_cc19 : List (Nat × Instr × Nat) := [(0, .iload_n 1, 1), (1, .ifCond .lt 29, 3), (4, .iload_n 1, 1), (5, .aload_n 0, 1), (6, .getfield 15, 3), (9, .if_icmp .ge 21, 3), (30, .iconst (-1), 1), (31, .ireturn, 1)]
def pm_mm19 : pm_M := (⟨"LambdaShelf$Tape", "at", "(I)I"⟩, prog_6_method_3_code, 2, (Option.some FieldType.int), 1, 4, false, 382, pm_cc19)
def pm_cc20 : List (Nat × Instr × Nat) := [(0, .aload_n 0, 1), (1, .iload_n 1, 1), (2, .putfield 38, 3), (5, .aload_n 0, 1), (6, .aload_n 0, 1), (7, .getfield 72, 3), (10, .putfield 41, 3), (13, .return_, 1)]
def pm_mm20 : pm_M := (⟨"LambdaShelf$Reader", "fail", "(I)V"⟩, prog_4_method_25_code, 2, (Option.none : Option FieldType), 1, 2, false, 393, pm_cc20)
def pm_cc21 : List (Nat × Instr × Nat) := [(0, .aload_n 0, 1), (1, .getfield 32, 3), (4, .ifCond .eq 8, 3), (12, .aload_n 0, 1), (13, .getfield 54, 3), (16, .tableswitch 98 1 4 #[32, 39, 54, 80], 32), (114, .aload_n 0, 1), (115, .invokevirtual 115, 3), (118, .return_, 1)]
def pm_mm21 : pm_M := (⟨"LambdaShelf$Reader", "takeToken", "()V"⟩, prog_4_method_8_code, 1, (Option.none : Option FieldType), 0, 2, false, 493, pm_cc21)
def pm_cc22 : List (Nat × Instr × Nat) := [(0, .aload_n 0, 1), (1, .getfield 140, 3), (4, .ifCond .lt 27, 3), (7, .aload_n 0, 1), (8, .getfield 140, 3), (11, .aload_n 0, 1), (12, .getfield 9, 3), (15, .arraylength, 1), (16, .if_icmp .ge 15, 3), (19, .aload_n 0, 1), (20, .getfield 9, 3), (23, .aload_n 0, 1), (24, .getfield 140, 3), (27, .iaload, 1), (28, .ifCond .ne 7, 3), (31, .iconst 1, 1), (32, .goto 4, 3), (36, .ireturn, 1)]
def pm_mm22 : pm_M := (⟨"LambdaShelf$Reader", "isRowEmpty", "()Z"⟩, prog_4_method_19_code, 1, (Option.some FieldType.boolean), 0, 2, false, 533, pm_cc22)
def pm_cc23 : List (Nat × Instr × Nat) := [(0, .aload_n 0, 1), (1, .invokevirtual 133, 3), (4, .ifCond .ne 10, 3), (14, .aload_n 0, 1), (15, .iconst 2, 1), (16, .invokevirtual 95, 3), (19, .return_, 1)]
def pm_mm23 : pm_M := (⟨"LambdaShelf$Reader", "takeEnd", "()V"⟩, prog_4_method_14_code, 1, (Option.none : Option FieldType), 0, 2, false, 537, pm_cc23)
def pm_cc24 : List (Nat × Instr × Nat) := [(0, .aload_n 0, 1), (1, .getfield 76, 3), (4, .ireturn, 1)]
def pm_mm24 : pm_M := (⟨"LambdaShelf", "fault", "()I"⟩, prog_1_method_5_code, 1, (Option.some FieldType.int), 0, 8, false, 560, pm_cc24)
def pm_cc25 : List (Nat × Instr × Nat) := [(0, .aload_n 0, 1), (1, .iload_n 1, 1), (2, .invokevirtual 86, 3), (5, .astore_n 2, 1), (6, .aload_n 2, 1), (7, .ifnonnull 7, 3), (10, .iconst (-1), 1), (11, .goto 7, 3), (18, .ireturn, 1)]
def pm_mm25 : pm_M := (⟨"LambdaShelf", "size", "(I)I"⟩, prog_1_method_6_code, 3, (Option.some FieldType.int), 1, 8, false, 564, pm_cc25)
def pm_cc26 : List (Nat × Instr × Nat) := [(0, .iload_n 1, 1), (1, .ifCond .lt 29, 3), (4, .iload_n 1, 1), (5, .aload_n 0, 1), (6, .getfield 179, 3), (9, .if_icmp .ge 21, 3), (30, .aconst_null, 1), (31, .areturn, 1)]
def pm_mm26 : pm_M := (⟨"LambdaShelf", "termAt", "(I)LLambdaShelf$Code;"⟩, prog_1_method_25_code, 2, (Option.some (FieldType.object "LambdaShelf$Code")), 1, 8, false, 568, pm_cc26)
def pm_cc27 : List (Nat × Instr × Nat) := [(0, .aload_n 0, 1), (1, .iload_n 1, 1), (2, .invokevirtual 86, 3), (5, .astore_n 3, 1), (6, .aload_n 3, 1), (7, .ifnonnull 7, 3), (10, .iconst (-1), 1), (11, .goto 8, 3), (19, .ireturn, 1)]
def pm_mm27 : pm_M := (⟨"LambdaShelf", "code", "(II)I"⟩, prog_1_method_7_code, 4, (Option.some FieldType.int), 2, 8, false, 572, pm_cc27)
def pm_cc28 : List (Nat × Instr × Nat) := [(0, .aload_n 0, 1), (1, .iload_n 1, 1), (2, .invokevirtual 86, 3), (5, .astore_n 3, 1), (6, .aload_n 3, 1), (7, .ifnonnull 7, 3), (10, .iconst (-1), 1), (11, .goto 12, 3), (23, .ireturn, 1)]
def pm_mm28 : pm_M := (⟨"LambdaShelf", "letter", "(II)I"⟩, prog_1_method_8_code, 4, (Option.some FieldType.int), 2, 8, false, 580, pm_cc28)
def pm_cc29 : List (Nat × Instr × Nat) := [(0, .aload_n 0, 1), (1, .iload_n 1, 1), (2, .invokevirtual 86, 3), (5, .astore_n 3, 1), (6, .aload_n 0, 1), (7, .iload_n 2, 1), (8, .invokevirtual 86, 3), (11, .astore 4, 2), (13, .aload_n 3, 1), (14, .ifnull 8, 3), (22, .iconst (-1), 1), (23, .ireturn, 1)]
def pm_mm29 : pm_M := (⟨"LambdaShelf", "apply", "(II)I"⟩, prog_1_method_9_code, 6, (Option.some FieldType.int), 2, 8, false, 639, pm_cc29)
def pm_cc30 : List (Nat × Instr × Nat) := [(0, .aload_n 0, 1), (1, .iload_n 1, 1), (2, .invokevirtual 86, 3), (5, .astore_n 2, 1), (6, .aload_n 2, 1), (7, .ifnonnull 5, 3), (10, .iconst (-1), 1), (11, .ireturn, 1)]
def pm_mm30 : pm_M := (⟨"LambdaShelf", "copy", "(I)I"⟩, prog_1_method_10_code, 4, (Option.some FieldType.int), 1, 8, false, 655, pm_cc30)
def pm_cc31 : List (Nat × Instr × Nat) := [(0, .aload_n 0, 1), (1, .iload_n 1, 1), (2, .invokevirtual 86, 3), (5, .astore_n 3, 1), (6, .aload_n 0, 1), (7, .iload_n 2, 1), (8, .invokevirtual 86, 3), (11, .astore 4, 2), (13, .aload_n 3, 1), (14, .ifnull 8, 3), (22, .iconst (-1), 1), (23, .ireturn, 1)]
def pm_mm31 : pm_M := (⟨"LambdaShelf", "same", "(II)I"⟩, prog_1_method_11_code, 5, (Option.some FieldType.int), 2, 8, false, 659, pm_cc31)
def pm_cc32 : List (Nat × Instr × Nat) := [(0, .aload_n 0, 1), (1, .iload_n 1, 1), (2, .invokevirtual 86, 3), (5, .astore_n 3, 1), (6, .aload_n 3, 1), (7, .ifnull 10, 3), (17, .iconst (-1), 1), (18, .goto 12, 3), (30, .ireturn, 1)]
def pm_mm32 : pm_M := (⟨"LambdaShelf", "step", "(II)I"⟩, prog_1_method_12_code, 4, (Option.some FieldType.int), 2, 8, false, 668, pm_cc32)
def pm_cc33 : List (Nat × Instr × Nat) := [(0, .aload_n 0, 1), (1, .iload_n 1, 1), (2, .invokevirtual 86, 3), (5, .astore 4, 2), (7, .aload 4, 2), (9, .ifnull 17, 3), (26, .iconst (-1), 1), (27, .ireturn, 1)]
def pm_mm33 : pm_M := (⟨"LambdaShelf", "steps", "(III)I"⟩, prog_1_method_13_code, 7, (Option.some FieldType.int), 3, 8, false, 771, pm_cc33)
def pm_cc34 : List (Nat × Instr × Nat) := [(0, .iload_n 1, 1), (1, .lookupswitch 37 #[(0, 27), (1, 32)], 27), (28, .aload_n 0, 1), (29, .getfield 127, 3), (32, .ireturn, 1), (33, .aload_n 0, 1), (34, .getfield 124, 3), (37, .ireturn, 1), (38, .iconst (-1), 1), (39, .ireturn, 1)]
def pm_mm34 : pm_M := (⟨"LambdaShelf", "told", "(I)I"⟩, prog_1_method_14_code, 2, (Option.some FieldType.int), 1, 8, false, 779, pm_cc34)
def pm_cc35 : List (Nat × Instr × Nat) := [(0, .aload_n 0, 1), (1, .iload_n 1, 1), (2, .invokevirtual 86, 3), (5, .astore_n 3, 1), (6, .aload_n 3, 1), (7, .ifnull 10, 3), (17, .iconst (-1), 1), (18, .goto 12, 3), (30, .ireturn, 1)]
def pm_mm35 : pm_M := (⟨"LambdaShelf", "redex", "(II)I"⟩, prog_1_method_15_code, 4, (Option.some FieldType.int), 2, 8, false, 783, pm_cc35)
def pm_cc36 : List (Nat × Instr × Nat) := [(0, .aload_n 0, 1), (1, .iload_n 1, 1), (2, .invokevirtual 86, 3), (5, .astore_n 2, 1), (6, .aload_n 2, 1), (7, .ifnonnull 7, 3), (10, .iconst (-1), 1), (11, .goto 11, 3), (22, .ireturn, 1)]
def pm_mm36 : pm_M := (⟨"LambdaShelf", "redexes", "(I)I"⟩, prog_1_method_16_code, 3, (Option.some FieldType.int), 1, 8, false, 788, pm_cc36)
def pm_cc37 : List (Nat × Instr × Nat) := [(0, .aload_n 0, 1), (1, .iload_n 1, 1), (2, .invokevirtual 86, 3), (5, .astore_n 2, 1), (6, .aload_n 2, 1), (7, .ifnonnull 5, 3), (10, .iconst (-1), 1), (11, .ireturn, 1)]
def pm_mm37 : pm_M := (⟨"LambdaShelf", "abstracted", "(I)I"⟩, prog_1_method_17_code, 4, (Option.some FieldType.int), 1, 8, false, 796, pm_cc37)
def pm_cc38 : List (Nat × Instr × Nat) := [(0, .aload_n 0, 1), (1, .iload_n 1, 1), (2, .invokevirtual 86, 3), (5, .astore_n 2, 1), (6, .aload_n 2, 1), (7, .ifnonnull 7, 3), (10, .iconst (-1), 1), (11, .goto 7, 3), (18, .ireturn, 1)]
def pm_mm38 : pm_M := (⟨"LambdaShelf", "number", "(I)I"⟩, prog_1_method_18_code, 3, (Option.some FieldType.int), 1, 8, false, 869, pm_cc38)
def pm_cc39 : List (Nat × Instr × Nat) := [(0, .aload_n 0, 1), (1, .iload_n 1, 1), (2, .invokevirtual 86, 3), (5, .astore_n 3, 1), (6, .aload_n 3, 1), (7, .ifnull 10, 3), (17, .iconst (-1), 1), (18, .ireturn, 1)]
def pm_mm39 : pm_M := (⟨"LambdaShelf", "read", "(II)I"⟩, prog_1_method_19_code, 6, (Option.some FieldType.int), 2, 8, false, 879, pm_cc39)
def pm_cc40 : List (Nat × Instr × Nat) := [(0, .aload_n 0, 1), (1, .iload_n 1, 1), (2, .invokevirtual 86, 3), (5, .astore_n 2, 1), (6, .aload_n 2, 1), (7, .ifnonnull 5, 3), (10, .iconst (-1), 1), (11, .ireturn, 1)]
def pm_mm40 : pm_M := (⟨"LambdaShelf", "typed", "(I)I"⟩, prog_1_method_20_code, 3, (Option.some FieldType.int), 1, 8, false, 887, pm_cc40)
def pm_cc41 : List (Nat × Instr × Nat) := [(0, .aload_n 0, 1), (1, .getfield 159, 3), (4, .ifnonnull 7, 3), (7, .iconst (-1), 1), (8, .goto 14, 3), (22, .ireturn, 1)]
def pm_mm41 : pm_M := (⟨"LambdaShelf", "type", "(I)I"⟩, prog_1_method_21_code, 2, (Option.some FieldType.int), 1, 8, false, 1046, pm_cc41)
def pm_cc42 : List (Nat × Instr × Nat) := [(0, .aload_n 0, 1), (1, .iload_n 1, 1), (2, .invokevirtual 86, 3), (5, .astore_n 3, 1), (6, .aload_n 3, 1), (7, .ifnonnull 5, 3), (10, .iconst (-1), 1), (11, .ireturn, 1)]
def pm_mm42 : pm_M := (⟨"LambdaShelf", "about", "(II)I"⟩, prog_1_method_22_code, 4, (Option.some FieldType.int), 2, 8, false, 1050, pm_cc42)
def pm_cc43 : List (Nat × Instr × Nat) := [(0, .aload_n 0, 1), (1, .getfield 179, 3), (4, .ifCond .ne 6, 3), (7, .bipush (-4), 2), (9, .ireturn, 1)]
def pm_mm43 : pm_M := (⟨"LambdaShelf", "drop", "()I"⟩, prog_1_method_23_code, 1, (Option.some FieldType.int), 0, 8, false, 1063, pm_cc43)
def pm_cc44 : List (Nat × Instr × Nat) := [(0, .iload_n 1, 1), (1, .tableswitch 45 0 2 #[27, 32, 40], 27), (28, .aload_n 0, 1), (29, .getfield 179, 3), (32, .ireturn, 1), (33, .aload_n 0, 1), (34, .getfield 10, 3), (37, .getfield 61, 3), (40, .ireturn, 1), (41, .aload_n 0, 1), (42, .invokevirtual 182, 3), (45, .ireturn, 1), (46, .iconst (-1), 1), (47, .ireturn, 1)]
def pm_mm44 : pm_M := (⟨"LambdaShelf", "count", "(I)I"⟩, prog_1_method_24_code, 2, (Option.some FieldType.int), 1, 8, false, 1067, pm_cc44)
def pm_cc45 : List (Nat × Instr × Nat) := [(0, .iconst 0, 1), (1, .istore_n 1, 1), (2, .iconst 0, 1), (3, .istore_n 2, 1), (4, .iload_n 2, 1), (5, .aload_n 0, 1), (6, .getfield 179, 3), (9, .if_icmp .ge 30, 3), (39, .iload_n 1, 1), (40, .ireturn, 1)]
def pm_mm45 : pm_M := (⟨"LambdaShelf", "allNodes", "()I"⟩, prog_1_method_28_code, 4, (Option.some FieldType.int), 0, 8, false, 1071, pm_cc45)
def pm_cc46 : List (Nat × Instr × Nat) := [(0, .aload_n 0, 1), (1, .invokespecial 1, 3), (4, .aload_n 0, 1), (5, .bipush 32, 2), (7, .newarray .int, 2), (9, .putfield 7, 3), (12, .aload_n 0, 1), (13, .sipush 16000, 3), (16, .newarray .int, 2), (18, .putfield 13, 3), (21, .aload_n 0, 1), (22, .sipush 600, 3), (25, .newarray .int, 2), (27, .putfield 16, 3), (30, .aload_n 0, 1), (31, .sipush 12000, 3), (34, .newarray .int, 2), (36, .putfield 19, 3), (39, .aload_n 0, 1), (40, .sipush 12000, 3), (43, .newarray .int, 2), (45, .putfield 22, 3), (48, .aload_n 0, 1), (49, .sipush 12000, 3), (52, .newarray .int, 2), (54, .putfield 25, 3), (57, .aload_n 0, 1), (58, .bipush 90, 2), (60, .newarray .int, 2), (62, .putfield 28, 3), (65, .aload_n 0, 1), (66, .bipush 90, 2), (68, .newarray .boolean, 2), (70, .putfield 31, 3), (73, .aload_n 0, 1), (74, .bipush 90, 2), (76, .newarray .int, 2), (78, .putfield 35, 3), (81, .aload_n 0, 1), (82, .bipush 41, 2), (84, .newarray .long, 2), (86, .putfield 38, 3), (89, .aload_n 0, 1), (90, .sipush 6000, 3), (93, .newarray .int, 2), (95, .putfield 42, 3), (98, .aload_n 0, 1), (99, .sipush 501, 3), (102, .newarray .boolean, 2), (104, .putfield 45, 3), (107, .aload_n 0, 1), (108, .sipush 501, 3), (111, .newarray .boolean, 2), (113, .putfield 48, 3), (116, .aload_n 0, 1), (117, .sipush 501, 3), (120, .newarray .int, 2), (122, .putfield 51, 3), (125, .aload_n 0, 1), (126, .sipush 12000, 3), (129, .newarray .int, 2), (131, .putfield 54, 3), (134, .aload_n 0, 1), (135, .sipush 12000, 3), (138, .newarray .int, 2), (140, .putfield 57, 3), (143, .aload_n 0, 1), (144, .sipush 9000, 3), (147, .newarray .int, 2), (149, .putfield 60, 3), (152, .aload_n 0, 1), (153, .sipush 9000, 3), (156, .newarray .int, 2), (158, .putfield 63, 3), (161, .aload_n 0, 1), (162, .sipush 9000, 3), (165, .newarray .int, 2), (167, .putfield 66, 3), (170, .aload_n 0, 1), (171, .sipush 20000, 3), (174, .newarray .int, 2), (176, .putfield 69, 3), (179, .aload_n 0, 1), (180, .sipush 20000, 3), (183, .newarray .int, 2), (185, .putfield 72, 3), (188, .aload_n 0, 1), (189, .sipush 9000, 3), (192, .newarray .int, 2), (194, .putfield 75, 3), (197, .aload_n 0, 1), (198, .sipush 9000, 3), (201, .newarray .int, 2), (203, .putfield 78, 3), (206, .aload_n 0, 1), (207, .sipush 500, 3), (210, .newarray .int, 2), (212, .putfield 81, 3), (215, .aload_n 0, 1), (216, .sipush 500, 3), (219, .newarray .int, 2), (221, .putfield 84, 3), (224, .aload_n 0, 1), (225, .sipush 501, 3), (228, .newarray .int, 2), (230, .putfield 87, 3), (233, .aload_n 0, 1), (234, .sipush 501, 3), (237, .newarray .int, 2), (239, .putfield 90, 3), (242, .aload_n 0, 1), (243, .sipush 500, 3), (246, .newarray .int, 2), (248, .putfield 93, 3), (251, .aload_n 0, 1), (252, .sipush 500, 3), (255, .newarray .int, 2), (257, .putfield 96, 3), (260, .aload_n 0, 1), (261, .sipush 9000, 3), (264, .newarray .int, 2), (266, .putfield 99, 3), (269, .aload_n 0, 1), (270, .sipush 9000, 3), (273, .newarray .int, 2), (275, .putfield 102, 3), (278, .return_, 1)]
def pm_mm46 : pm_M := (⟨"LambdaShelfModel", "<init>", "()V"⟩, prog_11_method_1_code, 1, (Option.none : Option FieldType), 0, 9, true, 1076, pm_cc46)
def pm_cc47 : List (Nat × Instr × Nat) := [(0, .aload_n 0, 1), (1, .getfield 105, 3), (4, .bipush 20, 2), (6, .iadd, 1), (7, .sipush 600, 3), (10, .if_icmp .le 6, 3), (16, .aload_n 0, 1), (17, .iload_n 1, 1), (18, .invokevirtual 109, 3), (21, .aload_n 0, 1), (22, .iload_n 2, 1), (23, .invokevirtual 109, 3), (26, .aload_n 0, 1), (27, .iload_n 3, 1), (28, .invokevirtual 109, 3), (31, .aload_n 0, 1), (32, .iload 4, 2), (34, .invokevirtual 109, 3), (37, .aload_n 0, 1), (38, .iload 5, 2), (40, .invokevirtual 109, 3), (43, .aload_n 0, 1), (44, .getfield 105, 3), (47, .ireturn, 1)]
def pm_mm47 : pm_M := (⟨"LambdaShelfModel", "feed", "(IIIII)I"⟩, prog_11_method_5_code, 6, (Option.some FieldType.int), 5, 9, false, 1231, pm_cc47)
def pm_cc48 : List (Nat × Instr × Nat) := [(0, .bipush 24, 2), (2, .istore_n 2, 1), (3, .iload_n 2, 1), (4, .ifCond .lt 35, 3), (7, .aload_n 0, 1), (8, .getfield 16, 3), (11, .aload_n 0, 1), (12, .getfield 105, 3), (15, .iload_n 1, 1), (16, .iload_n 2, 1), (17, .ishr, 1), (18, .sipush 255, 3), (21, .iand, 1), (22, .iastore, 1), (23, .aload_n 0, 1), (24, .dup, 1), (25, .getfield 105, 3), (28, .iconst 1, 1), (29, .iadd, 1), (30, .putfield 105, 3), (33, .iinc 2 (-8), 3), (36, .goto (-33), 3), (39, .return_, 1)]
def pm_mm48 : pm_M := (⟨"LambdaShelfModel", "put", "(I)V"⟩, prog_11_method_4_code, 3, (Option.none : Option FieldType), 1, 9, false, 1235, pm_cc48)
def pm_cc49 : List (Nat × Instr × Nat) := [(0, .iload_n 1, 1), (1, .i2l, 1), (2, .lconst 0, 1), (3, .aload_n 0, 1), (4, .getfield 105, 3), (7, .i2l, 1), (8, .invokestatic 113, 3), (11, .ifCond .ne 5, 3), (14, .iconst (-1), 1), (15, .ireturn, 1), (16, .aload_n 0, 1), (17, .getfield 105, 3), (20, .istore_n 2, 1), (21, .aload_n 0, 1), (22, .iload_n 1, 1), (23, .putfield 105, 3), (26, .iload_n 2, 1), (27, .ireturn, 1)]
def pm_mm49 : pm_M := (⟨"LambdaShelfModel", "end", "(I)I"⟩, prog_11_method_6_code, 3, (Option.some FieldType.int), 1, 9, false, 1239, pm_cc49)
def pm_cc50 : List (Nat × Instr × Nat) := [(0, .lload_n 0, 1), (1, .lload_n 2, 1), (2, .lcmp, 1), (3, .ifCond .lt 14, 3), (6, .lload_n 0, 1), (7, .lload 4, 2), (9, .lcmp, 1), (10, .ifCond .gt 7, 3), (13, .iconst 1, 1), (14, .goto 4, 3), (17, .iconst 0, 1), (18, .ireturn, 1)]
def pm_mm50 : pm_M := (⟨"LambdaShelfModel", "in", "(JJJ)Z"⟩, prog_11_method_3_code, 6, (Option.some FieldType.boolean), 3, 9, false, 1242, pm_cc50)
def pm_cc51 : List (Nat × Instr × Nat) := [(0, .aload_n 0, 1), (1, .getfield 204, 3), (4, .bipush 32, 2), (6, .if_icmp .ne 6, 3), (12, .aload_n 0, 1), (13, .iconst 0, 1), (14, .putfield 120, 3), (17, .aload_n 0, 1), (18, .invokevirtual 207, 3), (21, .aload_n 0, 1), (22, .iconst 0, 1), (23, .putfield 105, 3), (26, .aload_n 0, 1), (27, .getfield 120, 3), (30, .ifCond .le 11, 3), (33, .bipush (-10), 2), (35, .aload_n 0, 1), (36, .getfield 123, 3), (39, .isub, 1), (40, .ireturn, 1)]
def pm_mm51 : pm_M := (⟨"LambdaShelfModel", "term", "()I"⟩, prog_11_method_24_code, 1, (Option.some FieldType.int), 0, 9, false, 1246, pm_cc51)
def pm_cc52 : List (Nat × Instr × Nat) := [(0, .aload_n 0, 1), (1, .iconst 0, 1), (2, .putfield 126, 3), (5, .aload_n 0, 1), (6, .iconst 0, 1), (7, .putfield 117, 3), (10, .aload_n 0, 1), (11, .iconst 0, 1), (12, .putfield 167, 3), (15, .aload_n 0, 1), (16, .iconst 0, 1), (17, .putfield 179, 3), (20, .aload_n 0, 1), (21, .iconst 0, 1), (22, .putfield 182, 3), (25, .aload_n 0, 1), (26, .iconst (-1), 1), (27, .invokevirtual 189, 3), (30, .aload_n 0, 1), (31, .invokevirtual 176, 3), (34, .iconst 1, 1), (35, .istore_n 1, 1), (36, .iload_n 1, 1), (37, .ifCond .eq 262, 3), (40, .aload_n 0, 1), (41, .getfield 120, 3), (44, .ifCond .ne 255, 3), (47, .aload_n 0, 1), (48, .getfield 140, 3), (51, .iconst 1, 1), (52, .if_icmp .ne 10, 3), (62, .aload_n 0, 1), (63, .getfield 140, 3), (66, .iconst 2, 1), (67, .if_icmp .ne 10, 3), (77, .aload_n 0, 1), (78, .getfield 140, 3), (81, .iconst 3, 1), (82, .if_icmp .ne 23, 3), (105, .aload_n 0, 1), (106, .bipush 40, 2), (108, .invokevirtual 185, 3), (111, .ifCond .eq 50, 3), (161, .aload_n 0, 1), (162, .bipush 92, 2), (164, .invokevirtual 185, 3), (167, .ifCond .eq 10, 3), (177, .aload_n 0, 1), (178, .bipush 41, 2), (180, .invokevirtual 185, 3), (183, .ifCond .ne 10, 3), (186, .aload_n 0, 1), (187, .getfield 140, 3), (190, .ifCond .ne 97, 3), (193, .aload_n 0, 1), (194, .invokevirtual 201, 3), (197, .aload_n 0, 1), (198, .getfield 140, 3), (201, .ifCond .eq 7, 3), (208, .iconst 0, 1), (209, .istore_n 1, 1), (210, .aload_n 0, 1), (211, .getfield 120, 3), (214, .ifCond .ne 35, 3), (249, .aload_n 0, 1), (250, .getfield 120, 3), (253, .ifCond .ne (-217), 3), (299, .aload_n 0, 1), (300, .getfield 120, 3), (303, .ifCond .ne 19, 3), (322, .return_, 1)]
def pm_mm52 : pm_M := (⟨"LambdaShelfModel", "readTerm", "()V"⟩, prog_11_method_23_code, 2, (Option.none : Option FieldType), 0, 9, false, 1250, pm_cc52)
def pm_cc53 : List (Nat × Instr × Nat) := [(0, .aload_n 0, 1), (1, .getfield 28, 3), (4, .aload_n 0, 1), (5, .getfield 167, 3), (8, .aload_n 0, 1), (9, .getfield 117, 3), (12, .iastore, 1), (13, .aload_n 0, 1), (14, .getfield 31, 3), (17, .aload_n 0, 1), (18, .getfield 167, 3), (21, .iconst 0, 1), (22, .bastore, 1), (23, .aload_n 0, 1), (24, .getfield 35, 3), (27, .aload_n 0, 1), (28, .getfield 167, 3), (31, .iload_n 1, 1), (32, .iastore, 1), (33, .aload_n 0, 1), (34, .dup, 1), (35, .getfield 167, 3), (38, .iconst 1, 1), (39, .iadd, 1), (40, .putfield 167, 3), (43, .return_, 1)]
def pm_mm53 : pm_M := (⟨"LambdaShelfModel", "level", "(I)V"⟩, prog_11_method_16_code, 2, (Option.none : Option FieldType), 1, 9, false, 1254, pm_cc53)
def pm_cc54 : List (Nat × Instr × Nat) := [(0, .aload_n 0, 1), (1, .invokevirtual 129, 3), (4, .bipush 32, 2), (6, .if_icmp .ne 16, 3), (22, .aload_n 0, 1), (23, .aload_n 0, 1), (24, .getfield 126, 3), (27, .putfield 133, 3), (30, .aload_n 0, 1), (31, .lconst 0, 1), (32, .putfield 136, 3), (35, .aload_n 0, 1), (36, .invokevirtual 129, 3), (39, .istore_n 1, 1), (40, .iload_n 1, 1), (41, .ifCond .ge 11, 3), (44, .aload_n 0, 1), (45, .iconst 0, 1), (46, .putfield 140, 3), (49, .goto 341, 3), (390, .return_, 1)]
def pm_mm54 : pm_M := (⟨"LambdaShelfModel", "next", "()V"⟩, prog_11_method_14_code, 2, (Option.none : Option FieldType), 0, 9, false, 1258, pm_cc54)
def pm_cc55 : List (Nat × Instr × Nat) := [(0, .aload_n 0, 1), (1, .getfield 126, 3), (4, .aload_n 0, 1), (5, .getfield 105, 3), (8, .if_icmp .ge 15, 3), (23, .iconst (-1), 1), (24, .ireturn, 1)]
def pm_mm55 : pm_M := (⟨"LambdaShelfModel", "look", "()I"⟩, prog_11_method_12_code, 1, (Option.some FieldType.int), 0, 9, false, 1262, pm_cc55)
def pm_cc56 : List (Nat × Instr × Nat) := [(0, .aload_n 0, 1), (1, .getfield 120, 3), (4, .ifCond .ne 13, 3), (7, .aload_n 0, 1), (8, .iload_n 1, 1), (9, .putfield 120, 3), (12, .aload_n 0, 1), (13, .iload_n 2, 1), (14, .putfield 123, 3), (17, .return_, 1)]
def pm_mm56 : pm_M := (⟨"LambdaShelfModel", "fails", "(II)V"⟩, prog_11_method_11_code, 3, (Option.none : Option FieldType), 2, 9, false, 1270, pm_cc56)
def pm_cc57 : List (Nat × Instr × Nat) := [(0, .aload_n 0, 1), (1, .getfield 140, 3), (4, .iconst 4, 1), (5, .if_icmp .ne 17, 3), (22, .iconst 0, 1), (23, .ireturn, 1)]
def pm_mm57 : pm_M := (⟨"LambdaShelfModel", "isSign", "(I)Z"⟩, prog_11_method_15_code, 2, (Option.some FieldType.boolean), 1, 9, false, 1297, pm_cc57)
def pm_cc58 : List (Nat × Instr × Nat) := [(0, .aload_n 0, 1), (1, .getfield 120, 3), (4, .ifCond .ne 96, 3), (7, .aload_n 0, 1), (8, .getfield 35, 3), (11, .aload_n 0, 1), (12, .getfield 167, 3), (15, .iconst 1, 1), (16, .isub, 1), (17, .iaload, 1), (18, .ifCond .le 82, 3), (100, .aload_n 0, 1), (101, .getfield 120, 3), (104, .ifCond .ne 26, 3), (107, .aload_n 0, 1), (108, .getfield 31, 3), (111, .aload_n 0, 1), (112, .getfield 167, 3), (115, .iconst 1, 1), (116, .isub, 1), (117, .baload, 1), (118, .ifCond .ne 12, 3), (121, .aload_n 0, 1), (122, .iconst 2, 1), (123, .aload_n 0, 1), (124, .getfield 133, 3), (127, .invokevirtual 151, 3), (130, .return_, 1)]
def pm_mm58 : pm_M := (⟨"LambdaShelfModel", "closes", "()V"⟩, prog_11_method_22_code, 1, (Option.none : Option FieldType), 0, 9, false, 1305, pm_cc58)
def pm_cc59 : List (Nat × Instr × Nat) := [(0, .aload_n 0, 1), (1, .getfield 120, 3), (4, .ireturn, 1)]
def pm_mm59 : pm_M := (⟨"LambdaShelfModel", "fault", "()I"⟩, prog_11_method_25_code, 1, (Option.some FieldType.int), 0, 9, false, 1313, pm_cc59)
def pm_cc60 : List (Nat × Instr × Nat) := [(0, .aload_n 0, 1), (1, .iload_n 1, 1), (2, .invokevirtual 213, 3), (5, .ifCond .eq 12, 3), (17, .iconst (-1), 1), (18, .ireturn, 1)]
def pm_mm60 : pm_M := (⟨"LambdaShelfModel", "size", "(I)I"⟩, prog_11_method_27_code, 2, (Option.some FieldType.int), 1, 9, false, 1317, pm_cc60)
def pm_cc61 : List (Nat × Instr × Nat) := [(0, .iload_n 1, 1), (1, .i2l, 1), (2, .lconst 0, 1), (3, .aload_n 0, 1), (4, .getfield 204, 3), (7, .iconst 1, 1), (8, .isub, 1), (9, .i2l, 1), (10, .invokestatic 113, 3), (13, .ireturn, 1)]
def pm_mm61 : pm_M := (⟨"LambdaShelfModel", "isTerm", "(I)Z"⟩, prog_11_method_26_code, 2, (Option.some FieldType.boolean), 1, 9, false, 1321, pm_cc61)
def pm_cc62 : List (Nat × Instr × Nat) := [(0, .aload_n 0, 1), (1, .iload_n 1, 1), (2, .invokevirtual 213, 3), (5, .ifCond .eq 36, 3), (41, .iconst (-1), 1), (42, .ireturn, 1)]
def pm_mm62 : pm_M := (⟨"LambdaShelfModel", "code", "(II)I"⟩, prog_11_method_28_code, 3, (Option.some FieldType.int), 2, 9, false, 1325, pm_cc62)
def pm_cc63 : List (Nat × Instr × Nat) := [(0, .aload_n 0, 1), (1, .iload_n 1, 1), (2, .invokevirtual 213, 3), (5, .ifCond .ne 5, 3), (8, .iconst (-1), 1), (9, .ireturn, 1)]
def pm_mm63 : pm_M := (⟨"LambdaShelfModel", "letter", "(II)I"⟩, prog_11_method_32_code, 3, (Option.some FieldType.int), 2, 9, false, 1329, pm_cc63)
def pm_cc64 : List (Nat × Instr × Nat) := [(0, .aload_n 0, 1), (1, .iload_n 1, 1), (2, .invokevirtual 213, 3), (5, .ifCond .eq 11, 3), (16, .iconst (-1), 1), (17, .ireturn, 1)]
def pm_mm64 : pm_M := (⟨"LambdaShelfModel", "apply", "(II)I"⟩, prog_11_method_33_code, 4, (Option.some FieldType.int), 2, 9, false, 1357, pm_cc64)
def pm_cc65 : List (Nat × Instr × Nat) := [(0, .aload_n 0, 1), (1, .iload_n 1, 1), (2, .invokevirtual 213, 3), (5, .ifCond .ne 5, 3), (8, .iconst (-1), 1), (9, .ireturn, 1)]
def pm_mm65 : pm_M := (⟨"LambdaShelfModel", "copy", "(I)I"⟩, prog_11_method_34_code, 2, (Option.some FieldType.int), 1, 9, false, 1361, pm_cc65)
def pm_cc66 : List (Nat × Instr × Nat) := [(0, .aload_n 0, 1), (1, .iload_n 1, 1), (2, .invokevirtual 213, 3), (5, .ifCond .eq 11, 3), (16, .iconst (-1), 1), (17, .ireturn, 1)]
def pm_mm66 : pm_M := (⟨"LambdaShelfModel", "same", "(II)I"⟩, prog_11_method_35_code, 5, (Option.some FieldType.int), 2, 9, false, 1365, pm_cc66)
def pm_cc67 : List (Nat × Instr × Nat) := [(0, .aload_n 0, 1), (1, .iload_n 1, 1), (2, .invokevirtual 213, 3), (5, .ifCond .eq 15, 3), (20, .iconst (-1), 1), (21, .ireturn, 1)]
def pm_mm67 : pm_M := (⟨"LambdaShelfModel", "step", "(II)I"⟩, prog_11_method_47_code, 4, (Option.some FieldType.int), 2, 9, false, 1369, pm_cc67)
def pm_cc68 : List (Nat × Instr × Nat) := [(0, .aload_n 0, 1), (1, .iload_n 1, 1), (2, .invokevirtual 213, 3), (5, .ifCond .eq 27, 3), (32, .iconst (-1), 1), (33, .ireturn, 1)]
def pm_mm68 : pm_M := (⟨"LambdaShelfModel", "steps", "(III)I"⟩, prog_11_method_48_code, 7, (Option.some FieldType.int), 3, 9, false, 1418, pm_cc68)
def pm_cc69 : List (Nat × Instr × Nat) := [(0, .iload_n 1, 1), (1, .ifCond .ne 10, 3), (4, .aload_n 0, 1), (5, .getfield 278, 3), (8, .goto 16, 3), (11, .iload_n 1, 1), (12, .iconst 1, 1), (13, .if_icmp .ne 10, 3), (16, .aload_n 0, 1), (17, .getfield 281, 3), (20, .goto 4, 3), (23, .iconst (-1), 1), (24, .ireturn, 1)]
def pm_mm69 : pm_M := (⟨"LambdaShelfModel", "told", "(I)I"⟩, prog_11_method_49_code, 2, (Option.some FieldType.int), 1, 9, false, 1423, pm_cc69)
def pm_cc70 : List (Nat × Instr × Nat) := [(0, .aload_n 0, 1), (1, .iload_n 1, 1), (2, .invokevirtual 213, 3), (5, .ifCond .eq 15, 3), (20, .iconst (-1), 1), (21, .ireturn, 1)]
def pm_mm70 : pm_M := (⟨"LambdaShelfModel", "redex", "(II)I"⟩, prog_11_method_50_code, 3, (Option.some FieldType.int), 2, 9, false, 1427, pm_cc70)
def pm_cc71 : List (Nat × Instr × Nat) := [(0, .aload_n 0, 1), (1, .iload_n 1, 1), (2, .invokevirtual 213, 3), (5, .ifCond .ne 5, 3), (8, .iconst (-1), 1), (9, .ireturn, 1)]
def pm_mm71 : pm_M := (⟨"LambdaShelfModel", "redexes", "(I)I"⟩, prog_11_method_52_code, 2, (Option.some FieldType.int), 1, 9, false, 1431, pm_cc71)
def pm_cc72 : List (Nat × Instr × Nat) := [(0, .aload_n 0, 1), (1, .iload_n 1, 1), (2, .invokevirtual 213, 3), (5, .ifCond .ne 5, 3), (8, .iconst (-1), 1), (9, .ireturn, 1)]
def pm_mm72 : pm_M := (⟨"LambdaShelfModel", "abstracted", "(I)I"⟩, prog_11_method_57_code, 2, (Option.some FieldType.int), 1, 9, false, 1439, pm_cc72)
def pm_cc73 : List (Nat × Instr × Nat) := [(0, .aload_n 0, 1), (1, .iload_n 1, 1), (2, .invokevirtual 213, 3), (5, .ifCond .ne 5, 3), (8, .iconst (-1), 1), (9, .ireturn, 1)]
def pm_mm73 : pm_M := (⟨"LambdaShelfModel", "number", "(I)I"⟩, prog_11_method_59_code, 2, (Option.some FieldType.int), 1, 9, false, 1459, pm_cc73)
def pm_cc74 : List (Nat × Instr × Nat) := [(0, .aload_n 0, 1), (1, .iload_n 1, 1), (2, .invokevirtual 213, 3), (5, .ifCond .eq 15, 3), (20, .iconst (-1), 1), (21, .ireturn, 1)]
def pm_mm74 : pm_M := (⟨"LambdaShelfModel", "read", "(II)I"⟩, prog_11_method_60_code, 5, (Option.some FieldType.int), 2, 9, false, 1467, pm_cc74)
def pm_cc75 : List (Nat × Instr × Nat) := [(0, .aload_n 0, 1), (1, .iload_n 1, 1), (2, .invokevirtual 213, 3), (5, .ifCond .ne 5, 3), (8, .iconst (-1), 1), (9, .ireturn, 1)]
def pm_mm75 : pm_M := (⟨"LambdaShelfModel", "typed", "(I)I"⟩, prog_11_method_69_code, 5, (Option.some FieldType.int), 1, 9, false, 1471, pm_cc75)
def pm_cc76 : List (Nat × Instr × Nat) := [(0, .iload_n 1, 1), (1, .i2l, 1), (2, .lconst 0, 1), (3, .aload_n 0, 1), (4, .getfield 332, 3), (7, .iconst 1, 1), (8, .isub, 1), (9, .i2l, 1), (10, .invokestatic 113, 3), (13, .ifCond .eq 12, 3), (25, .iconst (-1), 1), (26, .ireturn, 1)]
def pm_mm76 : pm_M := (⟨"LambdaShelfModel", "type", "(I)I"⟩, prog_11_method_70_code, 2, (Option.some FieldType.int), 1, 9, false, 1507, pm_cc76)
def pm_cc77 : List (Nat × Instr × Nat) := [(0, .aload_n 0, 1), (1, .iload_n 1, 1), (2, .invokevirtual 213, 3), (5, .ifCond .eq 15, 3), (20, .iconst (-1), 1), (21, .ireturn, 1)]
def pm_mm77 : pm_M := (⟨"LambdaShelfModel", "about", "(II)I"⟩, prog_11_method_71_code, 7, (Option.some FieldType.int), 2, 9, false, 1511, pm_cc77)
def pm_cc78 : List (Nat × Instr × Nat) := [(0, .aload_n 0, 1), (1, .getfield 204, 3), (4, .ifCond .ne 6, 3), (7, .bipush (-4), 2), (9, .ireturn, 1)]
def pm_mm78 : pm_M := (⟨"LambdaShelfModel", "drop", "()I"⟩, prog_11_method_72_code, 1, (Option.some FieldType.int), 0, 9, false, 1518, pm_cc78)
def pm_cc79 : List (Nat × Instr × Nat) := [(0, .iconst 0, 1), (1, .istore_n 2, 1), (2, .iconst 0, 1), (3, .istore_n 3, 1), (4, .iload_n 3, 1), (5, .aload_n 0, 1), (6, .getfield 204, 3), (9, .if_icmp .ge 18, 3), (27, .iload_n 1, 1), (28, .ifCond .ne 10, 3), (31, .aload_n 0, 1), (32, .getfield 204, 3), (35, .goto 25, 3), (38, .iload_n 1, 1), (39, .iconst 1, 1), (40, .if_icmp .ne 10, 3), (43, .aload_n 0, 1), (44, .getfield 105, 3), (47, .goto 13, 3), (50, .iload_n 1, 1), (51, .iconst 2, 1), (52, .if_icmp .ne 7, 3), (55, .iload_n 2, 1), (56, .goto 4, 3), (59, .iconst (-1), 1), (60, .ireturn, 1)]
def pm_mm79 : pm_M := (⟨"LambdaShelfModel", "count", "(I)I"⟩, prog_11_method_73_code, 4, (Option.some FieldType.int), 1, 9, false, 1522, pm_cc79)
def pm_g0 : List pm_M := [pm_mm0, pm_mm1, pm_mm2, pm_mm3, pm_mm4, pm_mm5, pm_mm6, pm_mm7, pm_mm8, pm_mm9, pm_mm10, pm_mm11, pm_mm12, pm_mm13, pm_mm14, pm_mm15, pm_mm16, pm_mm17, pm_mm18, pm_mm19]
def pm_g1 : List pm_M := [pm_mm20, pm_mm21, pm_mm22, pm_mm23, pm_mm24, pm_mm25, pm_mm26, pm_mm27, pm_mm28, pm_mm29, pm_mm30, pm_mm31, pm_mm32, pm_mm33, pm_mm34, pm_mm35, pm_mm36, pm_mm37, pm_mm38, pm_mm39]
def pm_g2 : List pm_M := [pm_mm40, pm_mm41, pm_mm42, pm_mm43, pm_mm44, pm_mm45, pm_mm46, pm_mm47, pm_mm48, pm_mm49, pm_mm50, pm_mm51, pm_mm52, pm_mm53, pm_mm54, pm_mm55, pm_mm56, pm_mm57, pm_mm58, pm_mm59]
def pm_g3 : List pm_M := [pm_mm60, pm_mm61, pm_mm62, pm_mm63, pm_mm64, pm_mm65, pm_mm66, pm_mm67, pm_mm68, pm_mm69, pm_mm70, pm_mm71, pm_mm72, pm_mm73, pm_mm74, pm_mm75, pm_mm76, pm_mm77, pm_mm78, pm_mm79]
def pm_tab : List pm_M := pm_g0 ++ (pm_g1 ++ (pm_g2 ++ (pm_g3)))
def pm_fls : List (String × List (Nat × Nat × Nat × Nat × Nat)) := [("LambdaShelf$Abstracter", []), ("LambdaShelf$Code", [(15, 1, 0, 2, 174), (21, 1, 1, 0, 175), (25, 1, 2, 0, 184)]), ("LambdaShelf$Reader", [(9, 2, 0, 2, 214), (15, 2, 1, 2, 215), (18, 2, 2, 2, 216), (21, 2, 3, 2, 217), (25, 2, 4, 0, 218), (29, 2, 6, 0, 220), (32, 2, 7, 0, 221), (35, 2, 10, 0, 224), (38, 2, 11, 0, 225), (41, 2, 12, 0, 226), (54, 2, 8, 0, 222), (63, 4, 1, 1, 157), (72, 2, 9, 0, 223), (140, 2, 5, 0, 219)]), ("LambdaShelf$Shape", [(11, 3, 0, 2, 201), (17, 3, 1, 2, 202)]), ("LambdaShelf$Tape", [(9, 4, 0, 2, 154), (15, 4, 1, 0, 156)]), ("LambdaShelf$Teller", [(9, 5, 0, 2, 261)]), ("LambdaShelf$Turner", [(14, 6, 1, 2, 289), (20, 6, 0, 2, 288)]), ("LambdaShelf$Typer", []), ("LambdaShelf", [(10, 8, 0, 2, 295), (18, 8, 1, 2, 296), (25, 8, 2, 2, 297), (32, 8, 3, 2, 298), (41, 8, 4, 2, 299), (48, 8, 5, 2, 300), (57, 8, 6, 2, 301), (61, 4, 1, 1, 155), (76, 8, 10, 0, 305), (83, 2, 12, 1, 227), (124, 8, 12, 0, 307), (127, 8, 11, 0, 306), (159, 8, 8, 0, 303), (179, 8, 9, 0, 304)]), ("LambdaShelfModel", [(7, 9, 1, 2, 1079), (13, 9, 2, 2, 1080), (16, 9, 3, 2, 1081), (19, 9, 5, 2, 1083), (22, 9, 7, 2, 1085), (25, 9, 8, 2, 1086), (28, 9, 15, 2, 1093), (31, 9, 16, 2, 1094), (35, 9, 17, 2, 1095), (38, 9, 19, 2, 1097), (42, 9, 22, 2, 1100), (45, 9, 24, 2, 1102), (48, 9, 25, 2, 1103), (51, 9, 26, 2, 1104), (54, 9, 27, 2, 1105), (57, 9, 29, 2, 1107), (60, 9, 33, 2, 1111), (63, 9, 34, 2, 1112), (66, 9, 35, 2, 1113), (69, 9, 36, 2, 1114), (72, 9, 37, 2, 1115), (75, 9, 38, 2, 1116), (78, 9, 39, 2, 1117), (81, 9, 40, 2, 1118), (84, 9, 41, 2, 1119), (87, 9, 42, 2, 1120), (90, 9, 43, 2, 1121), (93, 9, 44, 2, 1122), (96, 9, 46, 2, 1124), (99, 9, 47, 2, 1125), (102, 9, 48, 2, 1126), (105, 9, 4, 0, 1082), (117, 9, 6, 0, 1084), (120, 9, 13, 0, 1091), (123, 9, 14, 0, 1092), (126, 9, 9, 0, 1087), (133, 9, 10, 0, 1088), (136, 9, 12, 0, 1090), (140, 9, 11, 0, 1089), (167, 9, 18, 0, 1096), (179, 9, 20, 0, 1098), (182, 9, 21, 0, 1099), (204, 9, 0, 0, 1078), (278, 9, 30, 0, 1108), (281, 9, 31, 0, 1109), (332, 9, 45, 0, 1123)]), ("LambdaShelfLaw", [])]
def pm_mls : List (String × List (Nat × Nat × Nat × Nat × Nat × Nat)) := [("LambdaShelf$Abstracter", []), ("LambdaShelf$Code", [(3, 4, 0, 170, 146, 147), (9, 5, 0, 171, 172, 173)]), ("LambdaShelf$Reader", [(3, 4, 0, 213, 146, 147), (44, 0, 15, 363, 365, 1), (47, 0, 17, 371, 373, 3), (57, 0, 18, 375, 377, 4), (60, 0, 21, 490, 492, 9), (68, 0, 19, 379, 380, 381), (95, 0, 20, 390, 392, 6), (115, 0, 23, 534, 536, 20), (121, 0, 16, 367, 369, 2), (133, 0, 22, 530, 532, 19)]), ("LambdaShelf$Shape", [(3, 4, 0, 200, 146, 147)]), ("LambdaShelf$Tape", [(3, 4, 0, 153, 146, 147)]), ("LambdaShelf$Teller", [(3, 4, 0, 260, 146, 147)]), ("LambdaShelf$Turner", [(3, 4, 0, 285, 146, 147), (11, 1, 3, 287, 168, 0)]), ("LambdaShelf$Typer", []), ("LambdaShelf", [(1, 4, 0, 145, 146, 147), (9, 2, 2, 150, 151, 0), (22, 1, 3, 167, 168, 0), (31, 2, 4, 197, 198, 0), (38, 1, 5, 210, 211, 0), (47, 2, 6, 257, 258, 0), (54, 1, 7, 282, 283, 0), (65, 0, 9, 339, 340, 341), (68, 0, 12, 351, 353, 0), (72, 0, 14, 359, 360, 361), (86, 0, 26, 565, 567, 23), (182, 0, 45, 1068, 1070, 75), (185, 0, 13, 355, 356, 357)]), ("LambdaShelfModel", [(1, 4, 0, 1077, 146, 147), (109, 0, 48, 1232, 1234, 76), (113, 3, 50, 1240, 1241, 0), (129, 0, 55, 1259, 1261, 80), (151, 0, 56, 1267, 1269, 81), (176, 0, 54, 1255, 1257, 79), (185, 0, 57, 1294, 1296, 86), (189, 0, 53, 1251, 1253, 78), (201, 0, 58, 1302, 1304, 88), (207, 0, 52, 1247, 1249, 77), (213, 0, 61, 1318, 1320, 90)]), ("LambdaShelfLaw", [(9, 1, 1, 142, 143, 0), (12, 1, 46, 1074, 1075, 0), (13, 0, 8, 335, 336, 337), (17, 0, 47, 1228, 1229, 1230), (18, 0, 10, 343, 344, 345), (22, 0, 49, 1236, 1237, 1238), (23, 0, 11, 347, 348, 349), (27, 0, 51, 1243, 1244, 1245), (28, 0, 24, 557, 558, 559), (31, 0, 59, 1310, 1311, 1312), (32, 0, 25, 561, 562, 563), (35, 0, 60, 1314, 1315, 1316), (36, 0, 27, 569, 570, 571), (40, 0, 62, 1322, 1323, 1324), (41, 0, 28, 577, 578, 579), (44, 0, 63, 1326, 1327, 1328), (45, 0, 29, 636, 637, 638), (48, 0, 64, 1354, 1355, 1356), (49, 0, 30, 652, 653, 654), (52, 0, 65, 1358, 1359, 1360), (53, 0, 31, 656, 657, 658), (56, 0, 66, 1362, 1363, 1364), (57, 0, 32, 665, 666, 667), (60, 0, 67, 1366, 1367, 1368), (61, 0, 33, 768, 769, 770), (65, 0, 68, 1415, 1416, 1417), (66, 0, 34, 776, 777, 778), (69, 0, 69, 1420, 1421, 1422), (70, 0, 35, 780, 781, 782), (73, 0, 70, 1424, 1425, 1426), (74, 0, 36, 785, 786, 787), (77, 0, 71, 1428, 1429, 1430), (78, 0, 37, 793, 794, 795), (81, 0, 72, 1436, 1437, 1438), (82, 0, 38, 866, 867, 868), (85, 0, 73, 1456, 1457, 1458), (86, 0, 39, 876, 877, 878), (89, 0, 74, 1464, 1465, 1466), (90, 0, 40, 884, 885, 886), (93, 0, 75, 1468, 1469, 1470), (94, 0, 41, 1043, 1044, 1045), (97, 0, 76, 1504, 1505, 1506), (98, 0, 42, 1047, 1048, 1049), (101, 0, 77, 1508, 1509, 1510), (102, 0, 43, 1060, 1061, 1062), (105, 0, 78, 1515, 1516, 1517), (106, 0, 44, 1064, 1065, 1066), (109, 0, 79, 1519, 1520, 1521)])]
def pm_nls : List (String × List (Nat × Nat × Nat)) := [("LambdaShelf$Abstracter", []), ("LambdaShelf$Code", []), ("LambdaShelf$Reader", []), ("LambdaShelf$Shape", []), ("LambdaShelf$Tape", []), ("LambdaShelf$Teller", []), ("LambdaShelf$Turner", [(9, 1, 286)]), ("LambdaShelf$Typer", []), ("LambdaShelf", [(7, 4, 148), (16, 1, 164), (29, 3, 195), (36, 2, 208), (45, 5, 255), (52, 6, 280)]), ("LambdaShelfModel", []), ("LambdaShelfLaw", [(7, 8, 140), (10, 9, 1072)])]
def pm_als : List (String × List (Nat × Nat)) := [("LambdaShelf$Abstracter", []), ("LambdaShelf$Code", []), ("LambdaShelf$Reader", []), ("LambdaShelf$Shape", []), ("LambdaShelf$Tape", []), ("LambdaShelf$Teller", []), ("LambdaShelf$Turner", []), ("LambdaShelf$Typer", []), ("LambdaShelf", [(16, 164)]), ("LambdaShelfModel", []), ("LambdaShelfLaw", [])]
def pm_lls : List (String × List (Nat × Int64 × Nat)) := [("LambdaShelf$Abstracter", []), ("LambdaShelf$Code", []), ("LambdaShelf$Reader", []), ("LambdaShelf$Shape", []), ("LambdaShelf$Tape", []), ("LambdaShelf$Teller", []), ("LambdaShelf$Turner", []), ("LambdaShelf$Typer", []), ("LambdaShelf", []), ("LambdaShelfModel", []), ("LambdaShelfLaw", [])]
def pm_ow (c : Nat) : String := (pm_fls.getD c ("", [])).1
def pm_fr (c idx : Nat) : Option (Nat × Nat × Nat × Nat) := pm_as (pm_fls.getD c ("", [])).2 idx
def pm_mr (c idx : Nat) : Option (Nat × Nat × Nat × Nat × Nat) := pm_as (pm_mls.getD c ("", [])).2 idx
def pm_nr (c idx : Nat) : Option (Nat × Nat) := pm_as (pm_nls.getD c ("", [])).2 idx
def pm_ar (c idx : Nat) : Option Nat := pm_as (pm_als.getD c ("", [])).2 idx
def pm_lk (c idx : Nat) : Option (Int64 × Nat) := pm_as (pm_lls.getD c ("", [])).2 idx
def pm_arp : List (ArrayType × Nat) := [(.int, 163), (.boolean, 1226), (.long, 1227)]
def pm_cwp : List (List Nat × Nat × Nat) := [([811, 813, 815, 817, 819, 821], 798, 138), ([188, 190, 192], 166, 125), ([228, 230, 232, 234, 236, 238, 240, 242, 244, 246, 248, 250, 252], 209, 128), ([203, 205], 196, 127), ([158, 160], 149, 124), ([267, 269, 271, 273, 275, 277], 256, 129), ([290, 292], 281, 130), ([910, 912, 914, 916, 918, 920, 922, 924, 926, 928, 930, 932, 934], 889, 139), ([308, 310, 312, 314, 316, 318, 320, 322, 324, 326, 328, 330, 332], 141, 123), ([1127, 1129, 1131, 1133, 1135, 1137, 1139, 1141, 1143, 1145, 1147, 1149, 1151, 1153, 1155, 1157, 1159, 1161, 1163, 1165, 1167, 1169, 1171, 1173, 1175, 1177, 1179, 1181, 1183, 1185, 1187, 1189, 1191, 1193, 1195, 1197, 1199, 1201, 1203, 1205, 1207, 1209, 1211, 1213, 1215, 1217, 1219, 1221, 1223], 1073, 131)]
end
section
/-! THE TABLES HOLD: by evaluation -/
def pm_tb : List Cond := lw_tbl.filter goodWord
def pm_at (p : Nat) (w : Cond) : Bool := decide (lw_tbl[p]? = some w)
theorem pm_at_mem {p : Nat} {w : Cond} (h : pm_at p w = true) : w ∈ lw_tbl := List.mem_of_getElem? (of_decide_eq_true h)
theorem pm_at_good {p : Nat} {w : Cond} (h : pm_at p w = true) (hg : goodWord w = true) : w ∈ pm_tb := List.mem_filter.mpr ⟨pm_at_mem h, hg⟩
def pm_fck (own : String) (q : Nat × Nat × Nat × Nat × Nat) : Bool := match pm_cl[q.2.1]? with
  | some c => decide (q.2.2.1 < c.2.2) && decide ((c.2.1 q.2.2.1).1 = c.1) && (match q.2.2.2.1 with
    | 0 => decide ((c.2.1 q.2.2.1).2.2.2 = false) && pm_at q.2.2.2.2 (.fieldLink own q.1 c.1 (c.2.1 q.2.2.1).2.1 (c.2.1 q.2.2.1).2.2.1)
    | 1 => decide ((c.2.1 q.2.2.1).2.2.2 = false) && pm_at q.2.2.2.2 (.fieldLinkNest own q.1 c.1 (c.2.1 q.2.2.1).2.1 (c.2.1 q.2.2.1).2.2.1 "LambdaShelf")
    | 2 => decide ((c.2.1 q.2.2.1).2.2.2 = true) && pm_at q.2.2.2.2 (.fieldLink own q.1 c.1 (c.2.1 q.2.2.1).2.1 (c.2.1 q.2.2.1).2.2.1)
    | 3 => decide ((c.2.1 q.2.2.1).2.2.2 = true) && pm_at q.2.2.2.2 (.fieldLinkNest own q.1 c.1 (c.2.1 q.2.2.1).2.1 (c.2.1 q.2.2.1).2.2.1 "LambdaShelf")
    | _ => false)
  | none => false
theorem pm_fls_ok : pm_fls.all (fun z => z.2.all (pm_fck z.1)) = true := by decide +kernel
def pm_mck (own : String) (q : Nat × Nat × Nat × Nat × Nat × Nat) : Bool := match q.2.1 with
  | 4 => pm_at q.2.2.2.1 (.methodLink own q.1 Lib.objectInit) && pm_at q.2.2.2.2.1 (.instanceMethod Lib.objectInit) && pm_at q.2.2.2.2.2 (.code Lib.objectInit ⟨#[0xb1]⟩ 1 none)
  | 5 => pm_at q.2.2.2.1 (.methodLink own q.1 Lib.Math.max.name) && pm_at q.2.2.2.2.1 (.static Lib.Math.max.name) && pm_at q.2.2.2.2.2 (.code Lib.Math.max.name Lib.Math.max.code 2 (some .int))
  | 6 => pm_at q.2.2.2.1 (.methodLink own q.1 Lib.Math.min.name) && pm_at q.2.2.2.2.1 (.static Lib.Math.min.name) && pm_at q.2.2.2.2.2 (.code Lib.Math.min.name Lib.Math.min.code 2 (some .int))
  | 7 => pm_at q.2.2.2.1 (.methodLink own q.1 arraycopyName) && pm_at q.2.2.2.2.1 (.static arraycopyName) && pm_at q.2.2.2.2.2 (.native arraycopyName)
  | k => match pm_tab[q.2.2.1]? with
    | some T => match k with
      | 0 => pm_at q.2.2.2.1 (.methodLink own q.1 (pm_nm T)) && pm_at q.2.2.2.2.1 (.instanceMethod (pm_nm T)) && pm_at q.2.2.2.2.2 (.selects (pm_nm T).cls (pm_nm T) (pm_nm T)) && decide ((pm_cl.getD (pm_cn T) ("", pm_F0, 0)).1 = (pm_nm T).cls)
      | 1 => pm_at q.2.2.2.1 (.methodLink own q.1 (pm_nm T)) && pm_at q.2.2.2.2.1 (.instanceMethod (pm_nm T)) && decide ((pm_nm T).name = "<init>") && decide (pm_re T = none)
      | 2 => pm_at q.2.2.2.1 (.methodLinkNest own q.1 (pm_nm T) "LambdaShelf") && pm_at q.2.2.2.2.1 (.instanceMethod (pm_nm T)) && decide ((pm_nm T).name = "<init>") && decide (pm_re T = none)
      | 3 => pm_at q.2.2.2.1 (.methodLink own q.1 (pm_nm T)) && pm_at q.2.2.2.2.1 (.static (pm_nm T))
      | _ => false
    | none => false
theorem pm_mls_ok : pm_mls.all (fun z => z.2.all (pm_mck z.1)) = true := by decide +kernel
def pm_nck (own : String) (q : Nat × Nat × Nat) : Bool := match pm_cl[q.2.1]? with
  | some c => pm_at q.2.2 (.classLink own q.1 c.1)
  | none => false
theorem pm_nls_ok : pm_nls.all (fun z => z.2.all (pm_nck z.1)) = true := by decide +kernel
theorem pm_als_ok : pm_als.all (fun z => z.2.all (fun q => pm_at q.2 (.classLink z.1 q.1 "LambdaShelf$Code"))) = true := by decide +kernel
theorem pm_lls_ok : pm_lls.all (fun z => z.2.all (fun q => pm_at q.2.2 (.constantLong z.1 q.1 q.2.1))) = true := by decide +kernel
theorem pm_ows_ok : pm_fls.map (fun z => z.1) = pm_mls.map (fun z => z.1) ∧ pm_fls.map (fun z => z.1) = pm_nls.map (fun z => z.1) ∧ pm_fls.map (fun z => z.1) = pm_als.map (fun z => z.1) ∧ pm_fls.map (fun z => z.1) = pm_lls.map (fun z => z.1) := by decide +kernel
theorem pm_ini_ok : pm_at 126 (.initialized "java/lang/Math") = true ∧ pm_at 137 (.initialized "java/lang/System") = true ∧ pm_at 165 (.arrayOver (.object "LambdaShelf$Code")) = true := by decide +kernel
theorem pm_arp_ok : pm_arp.all (fun q => pm_at q.2 (.arrayClass (newarray.typeOf q.1))) = true := by decide +kernel
def pm_tck (T : pm_M) : Bool := decide (pm_ow (pm_cn T) = (pm_nm T).cls) && (!(pm_ini T) || decide ((pm_nm T).name = "<init>")) && (decide (pm_ps T = 0) || (pm_at (pm_cwp.getD (pm_cn T) ([], 0, 0)).2.2 (.initialized (pm_nm T).cls) && plainName (pm_nm T).cls && decide ((pm_nm T).cls ≠ "java/lang/invoke/MethodHandle") && decide ((pm_nm T).cls ≠ "java/lang/invoke/VarHandle") && decide ((parseMethodDescriptor (pm_nm T).desc).map (fun d => d.parameters.length) = some (pm_na T)) && decide (pm_ml T ≤ 21)))
def pm_dck (T : pm_M) : Bool := (pm_cd T).all (fun q => decide (decode (pm_by T) q.1 = .ok q.2) && (pm_isw q.2.1 || decide (q.2.2 = pm_len q.2.1)))
def pm_cck (ci : Nat) (ps : List Nat × Nat × Nat) : Bool := match pm_cl[ci]?, pm_dfs[ci]? with
  | some c, some fs => (List.range c.2.2).all (fun k => decide (parseFieldDescriptor (c.2.1 k).2.2.1 = some (pm_fty ci k)) && pm_at (ps.1.getD k 0) (u_lay c.1 c.2.1 k) && decide (defaultValue (pm_fty ci k) = vp_V fs k) && (List.range c.2.2).all (fun j => decide (j = k) || decide ((c.2.1 k).2.1 ≠ (c.2.1 j).2.1))) && pm_at ps.2.1 (.instantiable c.1 c.2.2) && pm_at ps.2.2 (.initialized c.1) && decide (fs.length = c.2.2)
  | _, _ => false
theorem pm_cck_ok : (List.range pm_cl.length).all (fun ci => pm_cck ci (pm_cwp.getD ci ([], 0, 0))) = true := by decide +kernel
end
section
/-! the methods of group 0: their words, their instructions -/
set_option maxRecDepth 100000 in
theorem pm_kk1 : Cond.code (pm_nm pm_mm1) (pm_by pm_mm1) (pm_ml pm_mm1) (pm_re pm_mm1) ∈ lw_tbl := List.mem_append_right _ (List.mem_append_left _ (List.mem_of_getElem? (i := 22) rfl))
set_option maxRecDepth 100000 in
theorem pm_kk2 : Cond.code (pm_nm pm_mm2) (pm_by pm_mm2) (pm_ml pm_mm2) (pm_re pm_mm2) ∈ lw_tbl := List.mem_append_right _ (List.mem_append_left _ (List.mem_of_getElem? (i := 30) rfl))
set_option maxRecDepth 100000 in
theorem pm_kk3 : Cond.code (pm_nm pm_mm3) (pm_by pm_mm3) (pm_ml pm_mm3) (pm_re pm_mm3) ∈ lw_tbl := List.mem_append_right _ (List.mem_append_left _ (List.mem_of_getElem? (i := 47) rfl))
set_option maxRecDepth 100000 in
theorem pm_kk4 : Cond.code (pm_nm pm_mm4) (pm_by pm_mm4) (pm_ml pm_mm4) (pm_re pm_mm4) ∈ lw_tbl := List.mem_append_right _ (List.mem_append_left _ (List.mem_of_getElem? (i := 77) rfl))
set_option maxRecDepth 100000 in
theorem pm_kk5 : Cond.code (pm_nm pm_mm5) (pm_by pm_mm5) (pm_ml pm_mm5) (pm_re pm_mm5) ∈ lw_tbl := List.mem_append_right _ (List.mem_append_left _ (List.mem_of_getElem? (i := 90) rfl))
set_option maxRecDepth 100000 in
theorem pm_kk6 : Cond.code (pm_nm pm_mm6) (pm_by pm_mm6) (pm_ml pm_mm6) (pm_re pm_mm6) ∈ lw_tbl := List.mem_append_right _ (List.mem_append_left _ (List.mem_of_getElem? (i := 137) rfl))
set_option maxRecDepth 100000 in
theorem pm_kk7 : Cond.code (pm_nm pm_mm7) (pm_by pm_mm7) (pm_ml pm_mm7) (pm_re pm_mm7) ∈ lw_tbl := List.mem_append_right _ (List.mem_append_left _ (List.mem_of_getElem? (i := 162) rfl))
set_option maxRecDepth 100000 in
theorem pm_kk8 : Cond.code (pm_nm pm_mm8) (pm_by pm_mm8) (pm_ml pm_mm8) (pm_re pm_mm8) ∈ lw_tbl := List.mem_append_right _ (List.mem_append_left _ (List.mem_of_getElem? (i := 216) rfl))
set_option maxRecDepth 100000 in
theorem pm_kk9 : Cond.code (pm_nm pm_mm9) (pm_by pm_mm9) (pm_ml pm_mm9) (pm_re pm_mm9) ∈ lw_tbl := List.mem_append_right _ (List.mem_append_left _ (List.mem_of_getElem? (i := 220) rfl))
set_option maxRecDepth 100000 in
theorem pm_kk10 : Cond.code (pm_nm pm_mm10) (pm_by pm_mm10) (pm_ml pm_mm10) (pm_re pm_mm10) ∈ lw_tbl := List.mem_append_right _ (List.mem_append_left _ (List.mem_of_getElem? (i := 224) rfl))
set_option maxRecDepth 100000 in
theorem pm_kk11 : Cond.code (pm_nm pm_mm11) (pm_by pm_mm11) (pm_ml pm_mm11) (pm_re pm_mm11) ∈ lw_tbl := List.mem_append_right _ (List.mem_append_left _ (List.mem_of_getElem? (i := 228) rfl))
set_option maxRecDepth 100000 in
theorem pm_kk12 : Cond.code (pm_nm pm_mm12) (pm_by pm_mm12) (pm_ml pm_mm12) (pm_re pm_mm12) ∈ lw_tbl := List.mem_append_right _ (List.mem_append_left _ (List.mem_of_getElem? (i := 232) rfl))
set_option maxRecDepth 100000 in
theorem pm_kk13 : Cond.code (pm_nm pm_mm13) (pm_by pm_mm13) (pm_ml pm_mm13) (pm_re pm_mm13) ∈ lw_tbl := List.mem_append_right _ (List.mem_append_left _ (List.mem_of_getElem? (i := 236) rfl))
set_option maxRecDepth 100000 in
theorem pm_kk14 : Cond.code (pm_nm pm_mm14) (pm_by pm_mm14) (pm_ml pm_mm14) (pm_re pm_mm14) ∈ lw_tbl := List.mem_append_right _ (List.mem_append_right _ (List.mem_append_left _ (List.mem_of_getElem? (i := 0) rfl)))
set_option maxRecDepth 100000 in
theorem pm_kk15 : Cond.code (pm_nm pm_mm15) (pm_by pm_mm15) (pm_ml pm_mm15) (pm_re pm_mm15) ∈ lw_tbl := List.mem_append_right _ (List.mem_append_right _ (List.mem_append_left _ (List.mem_of_getElem? (i := 4) rfl)))
set_option maxRecDepth 100000 in
theorem pm_kk16 : Cond.code (pm_nm pm_mm16) (pm_by pm_mm16) (pm_ml pm_mm16) (pm_re pm_mm16) ∈ lw_tbl := List.mem_append_right _ (List.mem_append_right _ (List.mem_append_left _ (List.mem_of_getElem? (i := 8) rfl)))
set_option maxRecDepth 100000 in
theorem pm_kk17 : Cond.code (pm_nm pm_mm17) (pm_by pm_mm17) (pm_ml pm_mm17) (pm_re pm_mm17) ∈ lw_tbl := List.mem_append_right _ (List.mem_append_right _ (List.mem_append_left _ (List.mem_of_getElem? (i := 12) rfl)))
set_option maxRecDepth 100000 in
theorem pm_kk18 : Cond.code (pm_nm pm_mm18) (pm_by pm_mm18) (pm_ml pm_mm18) (pm_re pm_mm18) ∈ lw_tbl := List.mem_append_right _ (List.mem_append_right _ (List.mem_append_left _ (List.mem_of_getElem? (i := 16) rfl)))
set_option maxRecDepth 100000 in
theorem pm_kk19 : Cond.code (pm_nm pm_mm19) (pm_by pm_mm19) (pm_ml pm_mm19) (pm_re pm_mm19) ∈ lw_tbl := List.mem_append_right _ (List.mem_append_right _ (List.mem_append_left _ (List.mem_of_getElem? (i := 20) rfl)))
theorem pm_gk0 : ∀ T ∈ pm_g0, pm_ps T ≠ 0 → Cond.code (pm_nm T) (pm_by T) (pm_ml T) (pm_re T) ∈ lw_tbl := List.forall_mem_cons.mpr ⟨fun h => absurd rfl h, List.forall_mem_cons.mpr ⟨fun _ => pm_kk1, List.forall_mem_cons.mpr ⟨fun _ => pm_kk2, List.forall_mem_cons.mpr ⟨fun _ => pm_kk3, List.forall_mem_cons.mpr ⟨fun _ => pm_kk4, List.forall_mem_cons.mpr ⟨fun _ => pm_kk5, List.forall_mem_cons.mpr ⟨fun _ => pm_kk6, List.forall_mem_cons.mpr ⟨fun _ => pm_kk7, List.forall_mem_cons.mpr ⟨fun _ => pm_kk8, List.forall_mem_cons.mpr ⟨fun _ => pm_kk9, List.forall_mem_cons.mpr ⟨fun _ => pm_kk10, List.forall_mem_cons.mpr ⟨fun _ => pm_kk11, List.forall_mem_cons.mpr ⟨fun _ => pm_kk12, List.forall_mem_cons.mpr ⟨fun _ => pm_kk13, List.forall_mem_cons.mpr ⟨fun _ => pm_kk14, List.forall_mem_cons.mpr ⟨fun _ => pm_kk15, List.forall_mem_cons.mpr ⟨fun _ => pm_kk16, List.forall_mem_cons.mpr ⟨fun _ => pm_kk17, List.forall_mem_cons.mpr ⟨fun _ => pm_kk18, List.forall_mem_cons.mpr ⟨fun _ => pm_kk19, fun _ h => absurd h List.not_mem_nil⟩⟩⟩⟩⟩⟩⟩⟩⟩⟩⟩⟩⟩⟩⟩⟩⟩⟩⟩⟩
theorem pm_gt0 : pm_g0.all pm_tck = true := by decide +kernel
theorem pm_gd0 : pm_g0.all pm_dck = true := by decide +kernel
end
section
/-! the methods of group 1: their words, their instructions -/
set_option maxRecDepth 100000 in
theorem pm_kk20 : Cond.code (pm_nm pm_mm20) (pm_by pm_mm20) (pm_ml pm_mm20) (pm_re pm_mm20) ∈ lw_tbl := List.mem_append_right _ (List.mem_append_right _ (List.mem_append_left _ (List.mem_of_getElem? (i := 31) rfl)))
set_option maxRecDepth 100000 in
theorem pm_kk21 : Cond.code (pm_nm pm_mm21) (pm_by pm_mm21) (pm_ml pm_mm21) (pm_re pm_mm21) ∈ lw_tbl := List.mem_append_right _ (List.mem_append_right _ (List.mem_append_left _ (List.mem_of_getElem? (i := 131) rfl)))
set_option maxRecDepth 100000 in
theorem pm_kk22 : Cond.code (pm_nm pm_mm22) (pm_by pm_mm22) (pm_ml pm_mm22) (pm_re pm_mm22) ∈ lw_tbl := List.mem_append_right _ (List.mem_append_right _ (List.mem_append_left _ (List.mem_of_getElem? (i := 171) rfl)))
set_option maxRecDepth 100000 in
theorem pm_kk23 : Cond.code (pm_nm pm_mm23) (pm_by pm_mm23) (pm_ml pm_mm23) (pm_re pm_mm23) ∈ lw_tbl := List.mem_append_right _ (List.mem_append_right _ (List.mem_append_left _ (List.mem_of_getElem? (i := 175) rfl)))
set_option maxRecDepth 100000 in
theorem pm_kk24 : Cond.code (pm_nm pm_mm24) (pm_by pm_mm24) (pm_ml pm_mm24) (pm_re pm_mm24) ∈ lw_tbl := List.mem_append_right _ (List.mem_append_right _ (List.mem_append_left _ (List.mem_of_getElem? (i := 198) rfl)))
set_option maxRecDepth 100000 in
theorem pm_kk25 : Cond.code (pm_nm pm_mm25) (pm_by pm_mm25) (pm_ml pm_mm25) (pm_re pm_mm25) ∈ lw_tbl := List.mem_append_right _ (List.mem_append_right _ (List.mem_append_left _ (List.mem_of_getElem? (i := 202) rfl)))
set_option maxRecDepth 100000 in
theorem pm_kk26 : Cond.code (pm_nm pm_mm26) (pm_by pm_mm26) (pm_ml pm_mm26) (pm_re pm_mm26) ∈ lw_tbl := List.mem_append_right _ (List.mem_append_right _ (List.mem_append_left _ (List.mem_of_getElem? (i := 206) rfl)))
set_option maxRecDepth 100000 in
theorem pm_kk27 : Cond.code (pm_nm pm_mm27) (pm_by pm_mm27) (pm_ml pm_mm27) (pm_re pm_mm27) ∈ lw_tbl := List.mem_append_right _ (List.mem_append_right _ (List.mem_append_left _ (List.mem_of_getElem? (i := 210) rfl)))
set_option maxRecDepth 100000 in
theorem pm_kk28 : Cond.code (pm_nm pm_mm28) (pm_by pm_mm28) (pm_ml pm_mm28) (pm_re pm_mm28) ∈ lw_tbl := List.mem_append_right _ (List.mem_append_right _ (List.mem_append_left _ (List.mem_of_getElem? (i := 218) rfl)))
set_option maxRecDepth 100000 in
theorem pm_kk29 : Cond.code (pm_nm pm_mm29) (pm_by pm_mm29) (pm_ml pm_mm29) (pm_re pm_mm29) ∈ lw_tbl := List.mem_append_right _ (List.mem_append_right _ (List.mem_append_right _ (List.mem_append_left _ (List.mem_of_getElem? (i := 37) rfl))))
set_option maxRecDepth 100000 in
theorem pm_kk30 : Cond.code (pm_nm pm_mm30) (pm_by pm_mm30) (pm_ml pm_mm30) (pm_re pm_mm30) ∈ lw_tbl := List.mem_append_right _ (List.mem_append_right _ (List.mem_append_right _ (List.mem_append_left _ (List.mem_of_getElem? (i := 53) rfl))))
set_option maxRecDepth 100000 in
theorem pm_kk31 : Cond.code (pm_nm pm_mm31) (pm_by pm_mm31) (pm_ml pm_mm31) (pm_re pm_mm31) ∈ lw_tbl := List.mem_append_right _ (List.mem_append_right _ (List.mem_append_right _ (List.mem_append_left _ (List.mem_of_getElem? (i := 57) rfl))))
set_option maxRecDepth 100000 in
theorem pm_kk32 : Cond.code (pm_nm pm_mm32) (pm_by pm_mm32) (pm_ml pm_mm32) (pm_re pm_mm32) ∈ lw_tbl := List.mem_append_right _ (List.mem_append_right _ (List.mem_append_right _ (List.mem_append_left _ (List.mem_of_getElem? (i := 66) rfl))))
set_option maxRecDepth 100000 in
theorem pm_kk33 : Cond.code (pm_nm pm_mm33) (pm_by pm_mm33) (pm_ml pm_mm33) (pm_re pm_mm33) ∈ lw_tbl := List.mem_append_right _ (List.mem_append_right _ (List.mem_append_right _ (List.mem_append_left _ (List.mem_of_getElem? (i := 169) rfl))))
set_option maxRecDepth 100000 in
theorem pm_kk34 : Cond.code (pm_nm pm_mm34) (pm_by pm_mm34) (pm_ml pm_mm34) (pm_re pm_mm34) ∈ lw_tbl := List.mem_append_right _ (List.mem_append_right _ (List.mem_append_right _ (List.mem_append_left _ (List.mem_of_getElem? (i := 177) rfl))))
set_option maxRecDepth 100000 in
theorem pm_kk35 : Cond.code (pm_nm pm_mm35) (pm_by pm_mm35) (pm_ml pm_mm35) (pm_re pm_mm35) ∈ lw_tbl := List.mem_append_right _ (List.mem_append_right _ (List.mem_append_right _ (List.mem_append_left _ (List.mem_of_getElem? (i := 181) rfl))))
set_option maxRecDepth 100000 in
theorem pm_kk36 : Cond.code (pm_nm pm_mm36) (pm_by pm_mm36) (pm_ml pm_mm36) (pm_re pm_mm36) ∈ lw_tbl := List.mem_append_right _ (List.mem_append_right _ (List.mem_append_right _ (List.mem_append_left _ (List.mem_of_getElem? (i := 186) rfl))))
set_option maxRecDepth 100000 in
theorem pm_kk37 : Cond.code (pm_nm pm_mm37) (pm_by pm_mm37) (pm_ml pm_mm37) (pm_re pm_mm37) ∈ lw_tbl := List.mem_append_right _ (List.mem_append_right _ (List.mem_append_right _ (List.mem_append_left _ (List.mem_of_getElem? (i := 194) rfl))))
set_option maxRecDepth 100000 in
theorem pm_kk38 : Cond.code (pm_nm pm_mm38) (pm_by pm_mm38) (pm_ml pm_mm38) (pm_re pm_mm38) ∈ lw_tbl := List.mem_append_right _ (List.mem_append_right _ (List.mem_append_right _ (List.mem_append_right _ (List.mem_append_left _ (List.mem_of_getElem? (i := 27) rfl)))))
set_option maxRecDepth 100000 in
theorem pm_kk39 : Cond.code (pm_nm pm_mm39) (pm_by pm_mm39) (pm_ml pm_mm39) (pm_re pm_mm39) ∈ lw_tbl := List.mem_append_right _ (List.mem_append_right _ (List.mem_append_right _ (List.mem_append_right _ (List.mem_append_left _ (List.mem_of_getElem? (i := 37) rfl)))))
theorem pm_gk1 : ∀ T ∈ pm_g1, pm_ps T ≠ 0 → Cond.code (pm_nm T) (pm_by T) (pm_ml T) (pm_re T) ∈ lw_tbl := List.forall_mem_cons.mpr ⟨fun _ => pm_kk20, List.forall_mem_cons.mpr ⟨fun _ => pm_kk21, List.forall_mem_cons.mpr ⟨fun _ => pm_kk22, List.forall_mem_cons.mpr ⟨fun _ => pm_kk23, List.forall_mem_cons.mpr ⟨fun _ => pm_kk24, List.forall_mem_cons.mpr ⟨fun _ => pm_kk25, List.forall_mem_cons.mpr ⟨fun _ => pm_kk26, List.forall_mem_cons.mpr ⟨fun _ => pm_kk27, List.forall_mem_cons.mpr ⟨fun _ => pm_kk28, List.forall_mem_cons.mpr ⟨fun _ => pm_kk29, List.forall_mem_cons.mpr ⟨fun _ => pm_kk30, List.forall_mem_cons.mpr ⟨fun _ => pm_kk31, List.forall_mem_cons.mpr ⟨fun _ => pm_kk32, List.forall_mem_cons.mpr ⟨fun _ => pm_kk33, List.forall_mem_cons.mpr ⟨fun _ => pm_kk34, List.forall_mem_cons.mpr ⟨fun _ => pm_kk35, List.forall_mem_cons.mpr ⟨fun _ => pm_kk36, List.forall_mem_cons.mpr ⟨fun _ => pm_kk37, List.forall_mem_cons.mpr ⟨fun _ => pm_kk38, List.forall_mem_cons.mpr ⟨fun _ => pm_kk39, fun _ h => absurd h List.not_mem_nil⟩⟩⟩⟩⟩⟩⟩⟩⟩⟩⟩⟩⟩⟩⟩⟩⟩⟩⟩⟩
theorem pm_gt1 : pm_g1.all pm_tck = true := by decide +kernel
theorem pm_gd1 : pm_g1.all pm_dck = true := by decide +kernel
end
section
/-! the methods of group 2: their words, their instructions -/
set_option maxRecDepth 100000 in
theorem pm_kk40 : Cond.code (pm_nm pm_mm40) (pm_by pm_mm40) (pm_ml pm_mm40) (pm_re pm_mm40) ∈ lw_tbl := List.mem_append_right _ (List.mem_append_right _ (List.mem_append_right _ (List.mem_append_right _ (List.mem_append_left _ (List.mem_of_getElem? (i := 45) rfl)))))
set_option maxRecDepth 100000 in
theorem pm_kk41 : Cond.code (pm_nm pm_mm41) (pm_by pm_mm41) (pm_ml pm_mm41) (pm_re pm_mm41) ∈ lw_tbl := List.mem_append_right _ (List.mem_append_right _ (List.mem_append_right _ (List.mem_append_right _ (List.mem_append_left _ (List.mem_of_getElem? (i := 204) rfl)))))
set_option maxRecDepth 100000 in
theorem pm_kk42 : Cond.code (pm_nm pm_mm42) (pm_by pm_mm42) (pm_ml pm_mm42) (pm_re pm_mm42) ∈ lw_tbl := List.mem_append_right _ (List.mem_append_right _ (List.mem_append_right _ (List.mem_append_right _ (List.mem_append_left _ (List.mem_of_getElem? (i := 208) rfl)))))
set_option maxRecDepth 100000 in
theorem pm_kk43 : Cond.code (pm_nm pm_mm43) (pm_by pm_mm43) (pm_ml pm_mm43) (pm_re pm_mm43) ∈ lw_tbl := List.mem_append_right _ (List.mem_append_right _ (List.mem_append_right _ (List.mem_append_right _ (List.mem_append_left _ (List.mem_of_getElem? (i := 221) rfl)))))
set_option maxRecDepth 100000 in
theorem pm_kk44 : Cond.code (pm_nm pm_mm44) (pm_by pm_mm44) (pm_ml pm_mm44) (pm_re pm_mm44) ∈ lw_tbl := List.mem_append_right _ (List.mem_append_right _ (List.mem_append_right _ (List.mem_append_right _ (List.mem_append_left _ (List.mem_of_getElem? (i := 225) rfl)))))
set_option maxRecDepth 100000 in
theorem pm_kk45 : Cond.code (pm_nm pm_mm45) (pm_by pm_mm45) (pm_ml pm_mm45) (pm_re pm_mm45) ∈ lw_tbl := List.mem_append_right _ (List.mem_append_right _ (List.mem_append_right _ (List.mem_append_right _ (List.mem_append_left _ (List.mem_of_getElem? (i := 229) rfl)))))
set_option maxRecDepth 100000 in
theorem pm_kk46 : Cond.code (pm_nm pm_mm46) (pm_by pm_mm46) (pm_ml pm_mm46) (pm_re pm_mm46) ∈ lw_tbl := List.mem_append_right _ (List.mem_append_right _ (List.mem_append_right _ (List.mem_append_right _ (List.mem_append_left _ (List.mem_of_getElem? (i := 234) rfl)))))
set_option maxRecDepth 100000 in
theorem pm_kk47 : Cond.code (pm_nm pm_mm47) (pm_by pm_mm47) (pm_ml pm_mm47) (pm_re pm_mm47) ∈ lw_tbl := List.mem_append_right _ (List.mem_append_right _ (List.mem_append_right _ (List.mem_append_right _ (List.mem_append_right _ (List.mem_append_left _ (List.mem_of_getElem? (i := 149) rfl))))))
set_option maxRecDepth 100000 in
theorem pm_kk48 : Cond.code (pm_nm pm_mm48) (pm_by pm_mm48) (pm_ml pm_mm48) (pm_re pm_mm48) ∈ lw_tbl := List.mem_append_right _ (List.mem_append_right _ (List.mem_append_right _ (List.mem_append_right _ (List.mem_append_right _ (List.mem_append_left _ (List.mem_of_getElem? (i := 153) rfl))))))
set_option maxRecDepth 100000 in
theorem pm_kk49 : Cond.code (pm_nm pm_mm49) (pm_by pm_mm49) (pm_ml pm_mm49) (pm_re pm_mm49) ∈ lw_tbl := List.mem_append_right _ (List.mem_append_right _ (List.mem_append_right _ (List.mem_append_right _ (List.mem_append_right _ (List.mem_append_left _ (List.mem_of_getElem? (i := 157) rfl))))))
set_option maxRecDepth 100000 in
theorem pm_kk50 : Cond.code (pm_nm pm_mm50) (pm_by pm_mm50) (pm_ml pm_mm50) (pm_re pm_mm50) ∈ lw_tbl := List.mem_append_right _ (List.mem_append_right _ (List.mem_append_right _ (List.mem_append_right _ (List.mem_append_right _ (List.mem_append_left _ (List.mem_of_getElem? (i := 160) rfl))))))
set_option maxRecDepth 100000 in
theorem pm_kk51 : Cond.code (pm_nm pm_mm51) (pm_by pm_mm51) (pm_ml pm_mm51) (pm_re pm_mm51) ∈ lw_tbl := List.mem_append_right _ (List.mem_append_right _ (List.mem_append_right _ (List.mem_append_right _ (List.mem_append_right _ (List.mem_append_left _ (List.mem_of_getElem? (i := 164) rfl))))))
set_option maxRecDepth 100000 in
theorem pm_kk52 : Cond.code (pm_nm pm_mm52) (pm_by pm_mm52) (pm_ml pm_mm52) (pm_re pm_mm52) ∈ lw_tbl := List.mem_append_right _ (List.mem_append_right _ (List.mem_append_right _ (List.mem_append_right _ (List.mem_append_right _ (List.mem_append_left _ (List.mem_of_getElem? (i := 168) rfl))))))
set_option maxRecDepth 100000 in
theorem pm_kk53 : Cond.code (pm_nm pm_mm53) (pm_by pm_mm53) (pm_ml pm_mm53) (pm_re pm_mm53) ∈ lw_tbl := List.mem_append_right _ (List.mem_append_right _ (List.mem_append_right _ (List.mem_append_right _ (List.mem_append_right _ (List.mem_append_left _ (List.mem_of_getElem? (i := 172) rfl))))))
set_option maxRecDepth 100000 in
theorem pm_kk54 : Cond.code (pm_nm pm_mm54) (pm_by pm_mm54) (pm_ml pm_mm54) (pm_re pm_mm54) ∈ lw_tbl := List.mem_append_right _ (List.mem_append_right _ (List.mem_append_right _ (List.mem_append_right _ (List.mem_append_right _ (List.mem_append_left _ (List.mem_of_getElem? (i := 176) rfl))))))
set_option maxRecDepth 100000 in
theorem pm_kk55 : Cond.code (pm_nm pm_mm55) (pm_by pm_mm55) (pm_ml pm_mm55) (pm_re pm_mm55) ∈ lw_tbl := List.mem_append_right _ (List.mem_append_right _ (List.mem_append_right _ (List.mem_append_right _ (List.mem_append_right _ (List.mem_append_left _ (List.mem_of_getElem? (i := 180) rfl))))))
set_option maxRecDepth 100000 in
theorem pm_kk56 : Cond.code (pm_nm pm_mm56) (pm_by pm_mm56) (pm_ml pm_mm56) (pm_re pm_mm56) ∈ lw_tbl := List.mem_append_right _ (List.mem_append_right _ (List.mem_append_right _ (List.mem_append_right _ (List.mem_append_right _ (List.mem_append_left _ (List.mem_of_getElem? (i := 188) rfl))))))
set_option maxRecDepth 100000 in
theorem pm_kk57 : Cond.code (pm_nm pm_mm57) (pm_by pm_mm57) (pm_ml pm_mm57) (pm_re pm_mm57) ∈ lw_tbl := List.mem_append_right _ (List.mem_append_right _ (List.mem_append_right _ (List.mem_append_right _ (List.mem_append_right _ (List.mem_append_left _ (List.mem_of_getElem? (i := 215) rfl))))))
set_option maxRecDepth 100000 in
theorem pm_kk58 : Cond.code (pm_nm pm_mm58) (pm_by pm_mm58) (pm_ml pm_mm58) (pm_re pm_mm58) ∈ lw_tbl := List.mem_append_right _ (List.mem_append_right _ (List.mem_append_right _ (List.mem_append_right _ (List.mem_append_right _ (List.mem_append_left _ (List.mem_of_getElem? (i := 223) rfl))))))
set_option maxRecDepth 100000 in
theorem pm_kk59 : Cond.code (pm_nm pm_mm59) (pm_by pm_mm59) (pm_ml pm_mm59) (pm_re pm_mm59) ∈ lw_tbl := List.mem_append_right _ (List.mem_append_right _ (List.mem_append_right _ (List.mem_append_right _ (List.mem_append_right _ (List.mem_append_left _ (List.mem_of_getElem? (i := 231) rfl))))))
theorem pm_gk2 : ∀ T ∈ pm_g2, pm_ps T ≠ 0 → Cond.code (pm_nm T) (pm_by T) (pm_ml T) (pm_re T) ∈ lw_tbl := List.forall_mem_cons.mpr ⟨fun _ => pm_kk40, List.forall_mem_cons.mpr ⟨fun _ => pm_kk41, List.forall_mem_cons.mpr ⟨fun _ => pm_kk42, List.forall_mem_cons.mpr ⟨fun _ => pm_kk43, List.forall_mem_cons.mpr ⟨fun _ => pm_kk44, List.forall_mem_cons.mpr ⟨fun _ => pm_kk45, List.forall_mem_cons.mpr ⟨fun _ => pm_kk46, List.forall_mem_cons.mpr ⟨fun _ => pm_kk47, List.forall_mem_cons.mpr ⟨fun _ => pm_kk48, List.forall_mem_cons.mpr ⟨fun _ => pm_kk49, List.forall_mem_cons.mpr ⟨fun _ => pm_kk50, List.forall_mem_cons.mpr ⟨fun _ => pm_kk51, List.forall_mem_cons.mpr ⟨fun _ => pm_kk52, List.forall_mem_cons.mpr ⟨fun _ => pm_kk53, List.forall_mem_cons.mpr ⟨fun _ => pm_kk54, List.forall_mem_cons.mpr ⟨fun _ => pm_kk55, List.forall_mem_cons.mpr ⟨fun _ => pm_kk56, List.forall_mem_cons.mpr ⟨fun _ => pm_kk57, List.forall_mem_cons.mpr ⟨fun _ => pm_kk58, List.forall_mem_cons.mpr ⟨fun _ => pm_kk59, fun _ h => absurd h List.not_mem_nil⟩⟩⟩⟩⟩⟩⟩⟩⟩⟩⟩⟩⟩⟩⟩⟩⟩⟩⟩⟩
theorem pm_gt2 : pm_g2.all pm_tck = true := by decide +kernel
theorem pm_gd2 : pm_g2.all pm_dck = true := by decide +kernel
end
section
/-! the methods of group 3: their words, their instructions -/
set_option maxRecDepth 100000 in
theorem pm_kk60 : Cond.code (pm_nm pm_mm60) (pm_by pm_mm60) (pm_ml pm_mm60) (pm_re pm_mm60) ∈ lw_tbl := List.mem_append_right _ (List.mem_append_right _ (List.mem_append_right _ (List.mem_append_right _ (List.mem_append_right _ (List.mem_append_left _ (List.mem_of_getElem? (i := 235) rfl))))))
set_option maxRecDepth 100000 in
theorem pm_kk61 : Cond.code (pm_nm pm_mm61) (pm_by pm_mm61) (pm_ml pm_mm61) (pm_re pm_mm61) ∈ lw_tbl := List.mem_append_right _ (List.mem_append_right _ (List.mem_append_right _ (List.mem_append_right _ (List.mem_append_right _ (List.mem_append_left _ (List.mem_of_getElem? (i := 239) rfl))))))
set_option maxRecDepth 100000 in
theorem pm_kk62 : Cond.code (pm_nm pm_mm62) (pm_by pm_mm62) (pm_ml pm_mm62) (pm_re pm_mm62) ∈ lw_tbl := List.mem_append_right _ (List.mem_append_right _ (List.mem_append_right _ (List.mem_append_right _ (List.mem_append_right _ (List.mem_append_right _ (List.mem_of_getElem? (i := 3) rfl))))))
set_option maxRecDepth 100000 in
theorem pm_kk63 : Cond.code (pm_nm pm_mm63) (pm_by pm_mm63) (pm_ml pm_mm63) (pm_re pm_mm63) ∈ lw_tbl := List.mem_append_right _ (List.mem_append_right _ (List.mem_append_right _ (List.mem_append_right _ (List.mem_append_right _ (List.mem_append_right _ (List.mem_of_getElem? (i := 7) rfl))))))
set_option maxRecDepth 100000 in
theorem pm_kk64 : Cond.code (pm_nm pm_mm64) (pm_by pm_mm64) (pm_ml pm_mm64) (pm_re pm_mm64) ∈ lw_tbl := List.mem_append_right _ (List.mem_append_right _ (List.mem_append_right _ (List.mem_append_right _ (List.mem_append_right _ (List.mem_append_right _ (List.mem_of_getElem? (i := 35) rfl))))))
set_option maxRecDepth 100000 in
theorem pm_kk65 : Cond.code (pm_nm pm_mm65) (pm_by pm_mm65) (pm_ml pm_mm65) (pm_re pm_mm65) ∈ lw_tbl := List.mem_append_right _ (List.mem_append_right _ (List.mem_append_right _ (List.mem_append_right _ (List.mem_append_right _ (List.mem_append_right _ (List.mem_of_getElem? (i := 39) rfl))))))
set_option maxRecDepth 100000 in
theorem pm_kk66 : Cond.code (pm_nm pm_mm66) (pm_by pm_mm66) (pm_ml pm_mm66) (pm_re pm_mm66) ∈ lw_tbl := List.mem_append_right _ (List.mem_append_right _ (List.mem_append_right _ (List.mem_append_right _ (List.mem_append_right _ (List.mem_append_right _ (List.mem_of_getElem? (i := 43) rfl))))))
set_option maxRecDepth 100000 in
theorem pm_kk67 : Cond.code (pm_nm pm_mm67) (pm_by pm_mm67) (pm_ml pm_mm67) (pm_re pm_mm67) ∈ lw_tbl := List.mem_append_right _ (List.mem_append_right _ (List.mem_append_right _ (List.mem_append_right _ (List.mem_append_right _ (List.mem_append_right _ (List.mem_of_getElem? (i := 47) rfl))))))
set_option maxRecDepth 100000 in
theorem pm_kk68 : Cond.code (pm_nm pm_mm68) (pm_by pm_mm68) (pm_ml pm_mm68) (pm_re pm_mm68) ∈ lw_tbl := List.mem_append_right _ (List.mem_append_right _ (List.mem_append_right _ (List.mem_append_right _ (List.mem_append_right _ (List.mem_append_right _ (List.mem_of_getElem? (i := 96) rfl))))))
set_option maxRecDepth 100000 in
theorem pm_kk69 : Cond.code (pm_nm pm_mm69) (pm_by pm_mm69) (pm_ml pm_mm69) (pm_re pm_mm69) ∈ lw_tbl := List.mem_append_right _ (List.mem_append_right _ (List.mem_append_right _ (List.mem_append_right _ (List.mem_append_right _ (List.mem_append_right _ (List.mem_of_getElem? (i := 101) rfl))))))
set_option maxRecDepth 100000 in
theorem pm_kk70 : Cond.code (pm_nm pm_mm70) (pm_by pm_mm70) (pm_ml pm_mm70) (pm_re pm_mm70) ∈ lw_tbl := List.mem_append_right _ (List.mem_append_right _ (List.mem_append_right _ (List.mem_append_right _ (List.mem_append_right _ (List.mem_append_right _ (List.mem_of_getElem? (i := 105) rfl))))))
set_option maxRecDepth 100000 in
theorem pm_kk71 : Cond.code (pm_nm pm_mm71) (pm_by pm_mm71) (pm_ml pm_mm71) (pm_re pm_mm71) ∈ lw_tbl := List.mem_append_right _ (List.mem_append_right _ (List.mem_append_right _ (List.mem_append_right _ (List.mem_append_right _ (List.mem_append_right _ (List.mem_of_getElem? (i := 109) rfl))))))
set_option maxRecDepth 100000 in
theorem pm_kk72 : Cond.code (pm_nm pm_mm72) (pm_by pm_mm72) (pm_ml pm_mm72) (pm_re pm_mm72) ∈ lw_tbl := List.mem_append_right _ (List.mem_append_right _ (List.mem_append_right _ (List.mem_append_right _ (List.mem_append_right _ (List.mem_append_right _ (List.mem_of_getElem? (i := 117) rfl))))))
set_option maxRecDepth 100000 in
theorem pm_kk73 : Cond.code (pm_nm pm_mm73) (pm_by pm_mm73) (pm_ml pm_mm73) (pm_re pm_mm73) ∈ lw_tbl := List.mem_append_right _ (List.mem_append_right _ (List.mem_append_right _ (List.mem_append_right _ (List.mem_append_right _ (List.mem_append_right _ (List.mem_of_getElem? (i := 137) rfl))))))
set_option maxRecDepth 100000 in
theorem pm_kk74 : Cond.code (pm_nm pm_mm74) (pm_by pm_mm74) (pm_ml pm_mm74) (pm_re pm_mm74) ∈ lw_tbl := List.mem_append_right _ (List.mem_append_right _ (List.mem_append_right _ (List.mem_append_right _ (List.mem_append_right _ (List.mem_append_right _ (List.mem_of_getElem? (i := 145) rfl))))))
set_option maxRecDepth 100000 in
theorem pm_kk75 : Cond.code (pm_nm pm_mm75) (pm_by pm_mm75) (pm_ml pm_mm75) (pm_re pm_mm75) ∈ lw_tbl := List.mem_append_right _ (List.mem_append_right _ (List.mem_append_right _ (List.mem_append_right _ (List.mem_append_right _ (List.mem_append_right _ (List.mem_of_getElem? (i := 149) rfl))))))
set_option maxRecDepth 100000 in
theorem pm_kk76 : Cond.code (pm_nm pm_mm76) (pm_by pm_mm76) (pm_ml pm_mm76) (pm_re pm_mm76) ∈ lw_tbl := List.mem_append_right _ (List.mem_append_right _ (List.mem_append_right _ (List.mem_append_right _ (List.mem_append_right _ (List.mem_append_right _ (List.mem_of_getElem? (i := 185) rfl))))))
set_option maxRecDepth 100000 in
theorem pm_kk77 : Cond.code (pm_nm pm_mm77) (pm_by pm_mm77) (pm_ml pm_mm77) (pm_re pm_mm77) ∈ lw_tbl := List.mem_append_right _ (List.mem_append_right _ (List.mem_append_right _ (List.mem_append_right _ (List.mem_append_right _ (List.mem_append_right _ (List.mem_of_getElem? (i := 189) rfl))))))
set_option maxRecDepth 100000 in
theorem pm_kk78 : Cond.code (pm_nm pm_mm78) (pm_by pm_mm78) (pm_ml pm_mm78) (pm_re pm_mm78) ∈ lw_tbl := List.mem_append_right _ (List.mem_append_right _ (List.mem_append_right _ (List.mem_append_right _ (List.mem_append_right _ (List.mem_append_right _ (List.mem_of_getElem? (i := 196) rfl))))))
set_option maxRecDepth 100000 in
theorem pm_kk79 : Cond.code (pm_nm pm_mm79) (pm_by pm_mm79) (pm_ml pm_mm79) (pm_re pm_mm79) ∈ lw_tbl := List.mem_append_right _ (List.mem_append_right _ (List.mem_append_right _ (List.mem_append_right _ (List.mem_append_right _ (List.mem_append_right _ (List.mem_of_getElem? (i := 200) rfl))))))
theorem pm_gk3 : ∀ T ∈ pm_g3, pm_ps T ≠ 0 → Cond.code (pm_nm T) (pm_by T) (pm_ml T) (pm_re T) ∈ lw_tbl := List.forall_mem_cons.mpr ⟨fun _ => pm_kk60, List.forall_mem_cons.mpr ⟨fun _ => pm_kk61, List.forall_mem_cons.mpr ⟨fun _ => pm_kk62, List.forall_mem_cons.mpr ⟨fun _ => pm_kk63, List.forall_mem_cons.mpr ⟨fun _ => pm_kk64, List.forall_mem_cons.mpr ⟨fun _ => pm_kk65, List.forall_mem_cons.mpr ⟨fun _ => pm_kk66, List.forall_mem_cons.mpr ⟨fun _ => pm_kk67, List.forall_mem_cons.mpr ⟨fun _ => pm_kk68, List.forall_mem_cons.mpr ⟨fun _ => pm_kk69, List.forall_mem_cons.mpr ⟨fun _ => pm_kk70, List.forall_mem_cons.mpr ⟨fun _ => pm_kk71, List.forall_mem_cons.mpr ⟨fun _ => pm_kk72, List.forall_mem_cons.mpr ⟨fun _ => pm_kk73, List.forall_mem_cons.mpr ⟨fun _ => pm_kk74, List.forall_mem_cons.mpr ⟨fun _ => pm_kk75, List.forall_mem_cons.mpr ⟨fun _ => pm_kk76, List.forall_mem_cons.mpr ⟨fun _ => pm_kk77, List.forall_mem_cons.mpr ⟨fun _ => pm_kk78, List.forall_mem_cons.mpr ⟨fun _ => pm_kk79, fun _ h => absurd h List.not_mem_nil⟩⟩⟩⟩⟩⟩⟩⟩⟩⟩⟩⟩⟩⟩⟩⟩⟩⟩⟩⟩
theorem pm_gt3 : pm_g3.all pm_tck = true := by decide +kernel
theorem pm_gd3 : pm_g3.all pm_dck = true := by decide +kernel
end
section
/-! all methods -/
theorem pm_tab_gt : pm_tab.all pm_tck = true := by
  unfold pm_tab
  simp only [List.all_append, Bool.and_true, pm_gt0, pm_gt1, pm_gt2, pm_gt3]
theorem pm_tab_gd : pm_tab.all pm_dck = true := by
  unfold pm_tab
  simp only [List.all_append, Bool.and_true, pm_gd0, pm_gd1, pm_gd2, pm_gd3]
theorem pm_tab_gk : ∀ T ∈ pm_tab, pm_ps T ≠ 0 → Cond.code (pm_nm T) (pm_by T) (pm_ml T) (pm_re T) ∈ pm_tb := fun T hT h => List.mem_filter.mpr ⟨(show ∀ T ∈ pm_tab, pm_ps T ≠ 0 → Cond.code (pm_nm T) (pm_by T) (pm_ml T) (pm_re T) ∈ lw_tbl from List.forall_mem_append.mpr ⟨pm_gk0, List.forall_mem_append.mpr ⟨pm_gk1, List.forall_mem_append.mpr ⟨pm_gk2, pm_gk3⟩⟩⟩) T hT h, rfl⟩
end
section
/-! THE PURE MACHINE, 4: instructions that read, write and make cells (over the tables pm_fr, pm_nr, pm_ar, pm_cl of the part ahead) -/
def pm_r1 (st : List Value) : Option (Nat × List Value) := match st with
  | .ref a :: r => some (a, r)
  | _ => none
theorem pm_r1_ok {st r : List Value} {a : Nat} (h : pm_r1 st = some (a, r)) : st = .ref a :: r := by
  unfold pm_r1 at h; split at h
  · cases h; rfl
  · cases h
def pm_ob (ph : List va_E) (a ci : Nat) : Option (List Value) := match ph[a]? with
  | some (.inr q) => if q.1 = ci then some q.2 else none
  | _ => none
theorem pm_ob_ok {ph : List va_E} {a ci : Nat} {fs : List Value} (h : pm_ob ph a ci = some fs) : ph[a]? = some (.inr (ci, fs)) := by
  unfold pm_ob at h; split at h
  · rename_i q hq
    split at h
    · rename_i hc
      cases h
      rw [hq, ← hc]
    · cases h
  · cases h
def pm_ia (ph : List va_E) (a tg : Nat) : Option (Nat × (Nat → Int32)) := match ph[a]? with
  | some (.inl (t, n, .inl f)) => if t = tg then some (n, f) else none
  | _ => none
def pm_la (ph : List va_E) (a tg : Nat) : Option (Nat × (Nat → Int64)) := match ph[a]? with
  | some (.inl (t, n, .inr (.inl f))) => if t = tg then some (n, f) else none
  | _ => none
def pm_ra (ph : List va_E) (a tg : Nat) : Option (Nat × (Nat → Option Nat)) := match ph[a]? with
  | some (.inl (t, n, .inr (.inr (.inr (.inr f))))) => if t = tg then some (n, f) else none
  | _ => none
theorem pm_ia_ok {ph : List va_E} {a tg n : Nat} {f : Nat → Int32} (h : pm_ia ph a tg = some (n, f)) : ph[a]? = some (.inl (tg, n, .inl f)) := by
  unfold pm_ia at h; split at h
  · rename_i hq
    split at h
    · rename_i hc; cases h; rw [hq, hc]
    · cases h
  · cases h
theorem pm_la_ok {ph : List va_E} {a tg n : Nat} {f : Nat → Int64} (h : pm_la ph a tg = some (n, f)) : ph[a]? = some (.inl (tg, n, .inr (.inl f))) := by
  unfold pm_la at h; split at h
  · rename_i hq
    split at h
    · rename_i hc; cases h; rw [hq, hc]
    · cases h
  · cases h
theorem pm_ra_ok {ph : List va_E} {a tg n : Nat} {f : Nat → Option Nat} (h : pm_ra ph a tg = some (n, f)) : ph[a]? = some (.inl (tg, n, .inr (.inr (.inr (.inr f))))) := by
  unfold pm_ra at h; split at h
  · rename_i hq
    split at h
    · rename_i hc; cases h; rw [hq, hc]
    · cases h
  · cases h
def pm_ix (i : Int32) (n : Nat) : Option Nat := if i < 0 ∨ n ≤ i.toNatClampNeg then none else some i.toNatClampNeg
theorem pm_ix_ok {i : Int32} {n j : Nat} (h : pm_ix i n = some j) : vp_in i n ∧ j = i.toNatClampNeg := by
  unfold pm_ix at h; split at h
  · cases h
  · rename_i hc; cases h; exact ⟨hc, rfl⟩
def pm_aln (ph : List va_E) (a : Nat) : Option Nat := match ph[a]? with
  | some (.inl (_, n, .inl _)) => some n
  | some (.inl (_, n, .inr (.inl _))) => some n
  | some (.inl (_, n, .inr (.inr (.inr (.inr _))))) => some n
  | _ => none
def pm_s1 (st : List Value) : Option (List Value) := match st with
  | .retAddr _ :: r => some r
  | _ => none
theorem pm_s1_ok {st r : List Value} (h : pm_s1 st = some r) : ∃ k, st = .retAddr k :: r := by
  unfold pm_s1 at h; split at h
  · cases h; exact ⟨_, rfl⟩
  · cases h
/-- reads -/
def pm_rd (T : pm_M) (scr : Option (Nat × (Nat → Int32))) (i : Instr) (st : List Value) (ph : List va_E) : Option (List Value) := match i with
  | .getfield idx => (pm_r1 st).bind fun q => (pm_fr (pm_cn T) idx).bind fun w => (pm_ob ph q.1 w.1).bind fun fs => (fs[w.2.1]?).bind fun v => some (v :: q.2)
  | .iaload => (pm_i1 st).bind fun q => match pm_s1 q.2 with
    | some r => scr.bind fun x => (pm_ix q.1 x.1).bind fun j => some (.int (x.2 j) :: r)
    | none => (pm_r1 q.2).bind fun w => (pm_ia ph w.1 0).bind fun x => (pm_ix q.1 x.1).bind fun j => some (.int (x.2 j) :: w.2)
  | .baload => (pm_i1 st).bind fun q => (pm_r1 q.2).bind fun w => (pm_ia ph w.1 1).bind fun x => (pm_ix q.1 x.1).bind fun j => some (.int (x.2 j) :: w.2)
  | .laload => (pm_i1 st).bind fun q => (pm_r1 q.2).bind fun w => (pm_la ph w.1 2).bind fun x => (pm_ix q.1 x.1).bind fun j => some (.long (x.2 j) :: w.2)
  | .aaload => (pm_i1 st).bind fun q => (pm_r1 q.2).bind fun w => (pm_ra ph w.1 3).bind fun x => (pm_ix q.1 x.1).bind fun j => some (pm_vo (x.2 j) :: w.2)
  | .arraylength => match pm_s1 st with
    | some r => scr.bind fun x => some (.int (Int32.ofNat x.1) :: r)
    | none => (pm_r1 st).bind fun w => (pm_aln ph w.1).bind fun n => some (.int (Int32.ofNat n) :: w.2)
  | .ldc2_w idx => (pm_lk (pm_cn T) idx).bind fun v => some (.long v.1 :: st)
  | _ => none
def pm_pf (T : pm_M) (idx : Nat) (st : List Value) (ph : List va_E) : Option (List Value × Nat × va_E) := match st with
  | v :: st1 => (pm_r1 st1).bind fun q => (pm_fr (pm_cn T) idx).bind fun w => (pm_ob ph q.1 w.1).bind fun fs => if pm_fit (pm_fty w.1 w.2.1) v = true ∧ w.2.1 < fs.length ∧ (w.2.2.1 = 0 ∨ w.2.2.1 = 1 ∨ (w.2.2.1 = 2 ∧ pm_ini T = true ∧ w.1 = pm_cn T)) then some (q.2, q.1, .inr (w.1, fs.set w.2.1 v)) else none
  | _ => none
/-- writes: the place, the new cell, the stack behind -/
def pm_wr (T : pm_M) (i : Instr) (st : List Value) (ph : List va_E) : Option (List Value × Nat × va_E) := match i with
  | .putfield idx => pm_pf T idx st ph
  | .iastore => (pm_i1 st).bind fun v => (pm_i1 v.2).bind fun q => (pm_r1 q.2).bind fun w => (pm_ia ph w.1 0).bind fun x => (pm_ix q.1 x.1).bind fun j => some (w.2, w.1, .inl (0, x.1, .inl (upd x.2 j v.1)))
  | .bastore => (pm_i1 st).bind fun v => (pm_i1 v.2).bind fun q => (pm_r1 q.2).bind fun w => (pm_ia ph w.1 1).bind fun x => (pm_ix q.1 x.1).bind fun j => some (w.2, w.1, .inl (1, x.1, .inl (upd x.2 j (vp_nar .boolean v.1))))
  | .lastore => (pm_l1 st).bind fun v => (pm_i1 v.2).bind fun q => (pm_r1 q.2).bind fun w => (pm_la ph w.1 2).bind fun x => (pm_ix q.1 x.1).bind fun j => some (w.2, w.1, .inl (2, x.1, .inr (.inl (vp_updL x.2 j v.1))))
  | .aastore => (pm_r1 st).bind fun v => (pm_i1 v.2).bind fun q => (pm_r1 q.2).bind fun w => (pm_ra ph w.1 3).bind fun x => (pm_ix q.1 x.1).bind fun j => (pm_ob ph v.1 pm_cC).bind fun _ => some (w.2, w.1, .inl (3, x.1, .inr (.inr (.inr (.inr (va_up x.2 j (some v.1)))))))
  | _ => none
/-- new cells: the stack behind (without the new reference), the cell, its slots -/
def pm_nw (T : pm_M) (i : Instr) (st : List Value) : Option (List Value × va_E × Nat) := match i with
  | .new idx => (pm_nr (pm_cn T) idx).bind fun ci => (pm_dfs[ci.1]?).bind fun fs => some (st, .inr (ci.1, fs), fs.length)
  | .newarray .int => (pm_i1 st).bind fun q => if q.1 < 0 ∨ 16777216 < q.1.toNatClampNeg then none else some (q.2, .inl (0, q.1.toNatClampNeg, .inl (fun _ => 0)), q.1.toNatClampNeg)
  | .newarray .boolean => (pm_i1 st).bind fun q => if q.1 < 0 ∨ 16777216 < q.1.toNatClampNeg then none else some (q.2, .inl (1, q.1.toNatClampNeg, .inl (fun _ => 0)), q.1.toNatClampNeg)
  | .newarray .long => (pm_i1 st).bind fun q => if q.1 < 0 ∨ 16777216 < q.1.toNatClampNeg then none else some (q.2, .inl (2, q.1.toNatClampNeg, .inr (.inl (fun _ => 0))), q.1.toNatClampNeg)
  | .anewarray idx => (pm_ar (pm_cn T) idx).bind fun _ => (pm_i1 st).bind fun q => if q.1 < 0 ∨ 16777216 < q.1.toNatClampNeg then none else some (q.2, .inl (3, q.1.toNatClampNeg, .inr (.inr (.inr (.inr (fun _ => none))))), q.1.toNatClampNeg)
  | _ => none
/-! what the tables say -/
theorem pm_own_at {α : Type} {l : List (String × List (Nat × α))} (h : pm_fls.map (fun z => z.1) = l.map (fun z => z.1)) (c : Nat) : (l.getD c ("", [])).1 = pm_ow c := by
  have h1 : (l.map (fun z => z.1))[c]? = (pm_fls.map (fun z => z.1))[c]? := by rw [h]
  rw [List.getElem?_map, List.getElem?_map] at h1
  unfold pm_ow
  rw [List.getD_eq_getElem?_getD, List.getD_eq_getElem?_getD]
  cases ha : l[c]? with
  | none =>
    rw [ha] at h1
    cases hb : pm_fls[c]? with
    | none => rfl
    | some b => rw [hb] at h1; cases h1
  | some a =>
    rw [ha] at h1
    cases hb : pm_fls[c]? with
    | none => rw [hb] at h1; cases h1
    | some b => rw [hb] at h1; exact Option.some.inj h1
theorem pm_all_at {α : Type} {l : List (String × List (Nat × α))} {ck : String → Nat × α → Bool} (h : l.all (fun z => z.2.all (ck z.1)) = true) (ho : pm_fls.map (fun z => z.1) = l.map (fun z => z.1)) {c idx : Nat} {v : α} (hv : pm_as (l.getD c ("", [])).2 idx = some v) : ck (pm_ow c) (idx, v) = true := by
  have hm := pm_as_mem hv
  rcases pm_getD_mem (l := l) (d := ("", [])) (k := c) rfl with h1 | h1
  · rw [h1] at hm; cases hm
  · have h2 := List.all_eq_true.mp (List.all_eq_true.mp h _ h1) _ hm
    rw [pm_own_at ho c] at h2
    exact h2
theorem pm_fr_ok {c idx : Nat} {w : Nat × Nat × Nat × Nat} (h : pm_fr c idx = some w) : pm_fck (pm_ow c) (idx, w) = true := pm_all_at pm_fls_ok rfl h
theorem pm_mr_ok {c idx : Nat} {w : Nat × Nat × Nat × Nat × Nat} (h : pm_mr c idx = some w) : pm_mck (pm_ow c) (idx, w) = true := pm_all_at pm_mls_ok pm_ows_ok.1 h
theorem pm_nr_ok {c idx : Nat} {w : Nat × Nat} (h : pm_nr c idx = some w) : pm_nck (pm_ow c) (idx, w) = true := pm_all_at pm_nls_ok pm_ows_ok.2.1 h
theorem pm_ar_ok {c idx : Nat} {w : Nat} (h : pm_ar c idx = some w) : Cond.classLink (pm_ow c) idx "LambdaShelf$Code" ∈ lw_tbl := pm_at_mem (pm_all_at (ck := fun o q => pm_at q.2 (.classLink o q.1 "LambdaShelf$Code")) pm_als_ok pm_ows_ok.2.2.1 h)
set_option maxRecDepth 100000 in
theorem pm_lk_ok {c idx : Nat} {w : Int64 × Nat} (h : pm_lk c idx = some w) : Cond.constantLong (pm_ow c) idx w.1 ∈ lw_tbl := by
  have h1 : pm_at w.2 (.constantLong (pm_ow c) idx w.1) = true := pm_all_at (ck := fun o q => pm_at q.2.2 (.constantLong o q.1 q.2.1)) pm_lls_ok pm_ows_ok.2.2.2 h
  exact pm_at_mem h1
theorem pm_cl_ok {ci : Nat} {r : vw_C} (h : pm_cl[ci]? = some r) : (∀ k, k < r.2.2 → parseFieldDescriptor (r.2.1 k).2.2.1 = some (pm_fty ci k)) ∧ (∀ a, a < r.2.2 → ∀ b, b < r.2.2 → a ≠ b → (r.2.1 a).2.1 ≠ (r.2.1 b).2.1) ∧ (∀ w ∈ u_ws r.1 r.2.1 r.2.2, w ∈ pm_tb) ∧ Cond.instantiable r.1 r.2.2 ∈ pm_tb ∧ Cond.initialized r.1 ∈ pm_tb ∧ ∃ fs, pm_dfs[ci]? = some fs ∧ fs.length = r.2.2 ∧ ∀ j, j < r.2.2 → defaultValue (pm_fty ci j) = vp_V fs j := by
  have hl : ci < pm_cl.length := (List.getElem?_eq_some_iff.mp h).1
  have h1 := List.all_eq_true.mp pm_cck_ok ci (List.mem_range.mpr hl)
  unfold pm_cck at h1
  rw [h] at h1
  cases hf : pm_dfs[ci]? with
  | none => rw [hf] at h1; cases h1
  | some fs =>
    rw [hf] at h1
    simp only [Bool.and_eq_true, decide_eq_true_eq] at h1
    obtain ⟨⟨⟨h2, h3⟩, h4⟩, h5⟩ := h1
    have hk : ∀ k, k < r.2.2 → _ := fun k hk => List.all_eq_true.mp h2 k (List.mem_range.mpr hk)
    simp only [Bool.and_eq_true, decide_eq_true_eq] at hk
    refine ⟨fun k q => (hk k q).1.1.1, fun a ha b hb hab => ?_, fun w hw => ?_, pm_at_good h3 rfl, pm_at_good h4 rfl, fs, rfl, h5, fun j q => (hk j q).1.2⟩
    · have := List.all_eq_true.mp (hk a ha).2 b (List.mem_range.mpr hb)
      simp only [Bool.or_eq_true, decide_eq_true_eq] at this
      rcases this with q | q
      · exact absurd q.symm hab
      · exact q
    · obtain ⟨k, hk1, rfl⟩ := List.mem_map.mp hw
      exact pm_at_good (hk k (List.mem_range.mp hk1)).1.1.2 (by unfold u_lay; split <;> rfl)
/-- the words on nest mates, and on the array of references: they go along with the state -/
def pm_isn (w : Cond) : Bool := match w with
  | .fieldLinkNest .. => true
  | .methodLinkNest .. => true
  | _ => false
def pm_Nn (U : State) : Prop := (∀ w ∈ lw_tbl, pm_isn w = true → va_Nw w U) ∧ va_AO "LambdaShelf$Code" U
theorem pm_Nn.warm {s U : State} (hW : s.WarmedH U.vm) (h : pm_Nn s) : pm_Nn U := by
  refine ⟨fun w hw hn => ?_, h.2.moved hW.alike⟩
  have h1 := h.1 w hw hn
  cases w with
  | fieldLinkNest a b c d e f => exact h1.warmF hW
  | methodLinkNest a b c d => exact h1.warmM hW
  | _ => cases hn
theorem pm_Nn.same {u U : State} (hvm : u.vm = U.vm) (h : pm_Nn u) : pm_Nn U := by
  refine ⟨fun w hw hn => ?_, h.2.moved (by rw [hvm]; exact Vm.Alike.refl _)⟩
  have h1 := h.1 w hw hn
  cases w with
  | fieldLinkNest a b c d e f => exact h1.same rfl hvm
  | methodLinkNest a b c d => exact h1.same rfl hvm
  | _ => cases hn
theorem pm_fr_facts {c idx ci k nd ps : Nat} (h : pm_fr c idx = some (ci, k, nd, ps)) : ∃ (C : String) (F : u_T) (N : Nat), pm_cl[ci]? = some (C, F, N) ∧ k < N ∧ (F k).1 = C ∧
    ((nd = 0 ∧ (F k).2.2.2 = false ∧ Cond.fieldLink (pm_ow c) idx C (F k).2.1 (F k).2.2.1 ∈ pm_tb) ∨ (nd = 1 ∧ (F k).2.2.2 = false ∧ Cond.fieldLinkNest (pm_ow c) idx C (F k).2.1 (F k).2.2.1 "LambdaShelf" ∈ lw_tbl)
     ∨ (nd = 2 ∧ (F k).2.2.2 = true ∧ Cond.fieldLink (pm_ow c) idx C (F k).2.1 (F k).2.2.1 ∈ pm_tb) ∨ (nd = 3 ∧ Cond.fieldLinkNest (pm_ow c) idx C (F k).2.1 (F k).2.2.1 "LambdaShelf" ∈ lw_tbl)) := by
  have hck := pm_fr_ok h
  unfold pm_fck at hck
  dsimp only at hck
  cases hcl : pm_cl[ci]? with
  | none => rw [hcl] at hck; cases hck
  | some r =>
    obtain ⟨C, F, N⟩ := r
    rw [hcl] at hck
    dsimp only at hck
    simp only [Bool.and_eq_true, decide_eq_true_eq] at hck
    obtain ⟨⟨h1, h2⟩, h3⟩ := hck
    refine ⟨C, F, N, rfl, h1, h2, ?_⟩
    match nd, h3 with
    | 0, h3 =>
      simp only [Bool.and_eq_true, decide_eq_true_eq] at h3
      exact Or.inl ⟨rfl, h3.1, pm_at_good h3.2 rfl⟩
    | 1, h3 =>
      simp only [Bool.and_eq_true, decide_eq_true_eq] at h3
      exact Or.inr (Or.inl ⟨rfl, h3.1, pm_at_mem h3.2⟩)
    | 2, h3 =>
      simp only [Bool.and_eq_true, decide_eq_true_eq] at h3
      exact Or.inr (Or.inr (Or.inl ⟨rfl, h3.1, pm_at_good h3.2 rfl⟩))
    | 3, h3 =>
      simp only [Bool.and_eq_true, decide_eq_true_eq] at h3
      exact Or.inr (Or.inr (Or.inr ⟨rfl, pm_at_mem h3.2⟩))
    | n + 4, h3 => cases h3
section PMHP
variable {p : Program} {l : Launch} {e : Env} {R : Room} {s : State} {m : MethodId} {args : Array Value} {below : List Frame} {meth : Method} {c : Code} {H : Heap} {locs : List Loc} {cells slots : Nat} {Q : State → Prop}
variable {cc : ByteArray} {pc nL : Nat} {ls : Array Slot} {bS : Nat} {ad : List Nat} {D : va_G} {A : Nat → Prop} {H0 : Heap} {ws : va_W} {ph : List va_E} {T : pm_M}
theorem pm_alen_ok (hx : p.tables.exec = Jvm.exec) (hb : c.code = cc) (hK : va_K D pm_cl [] s) (hP : va_P D pm_cl ws H) {k a n : Nat} {e0 e' : va_E} {r' : List Value} (h0 : pm_aln ph k = some n) (hk : ph[k]? = some e0) (he : ws[k]? = some (a, e')) (hc : pm_rc bS ad s e0 e') (hd : decode cc pc = .ok (.arraylength, 1))
    (kk : W p l e R s m args below meth c H locs cells slots Q (F0 m (pc + 1) ls (.int (Int32.ofNat n) :: r'))) : W p l e R s m args below meth c H locs cells slots Q (F0 m pc ls (.ref a :: r')) := by
  unfold pm_aln at h0
  rw [hk] at h0
  split at h0
  · rename_i t n1 f heq
    cases heq
    cases h0
    obtain ⟨cA, rfl, h1, h2⟩ := hc
    exact va_alen hx hb (pm_K1 hK h1 h2) hP k 0 he rfl rfl hd kk
  · rename_i t n1 f heq
    cases heq
    cases h0
    obtain ⟨cA, rfl, h1, h2⟩ := hc
    exact va_alen hx hb (pm_K1 hK h1 h2) hP k 0 he rfl rfl hd kk
  · rename_i t n1 f heq
    cases heq
    cases h0
    obtain ⟨cA, g, rfl, -, h1, h2⟩ := hc
    exact va_alen hx hb (pm_K1 hK h1 h2) hP k 0 he rfl rfl hd kk
  · cases h0
theorem pm_rd_ok (hx : p.tables.exec = Jvm.exec) (hb : c.code = cc) (hown : s.vm.findClass (pm_ow (pm_cn T)) = some m.cls) (hts : ∀ w ∈ pm_tb, w.before args s = true) (hN : pm_Nn s) (hK : va_K D pm_cl [] s) (hP : va_P D pm_cl ws H) (hS : va_S A H0 H locs) (hw : pm_rw bS ad s ph ws)
    {scr : Option (Nat × (Nat → Int32))} (hX : ∀ x, scr = some x → va_X bS x.1 x.2 s H0 ∧ bS < H0.size ∧ ¬ A bS) {i : Instr} {st st2 stA : List Value} (h : pm_rd T scr i st ph = some st2) (hd : decode cc pc = .ok (i, pm_len i)) (hs : pm_rs bS ad st stA)
    (kk : ∀ stA2 : List Value, pm_rs bS ad st2 stA2 → W p l e R s m args below meth c H locs cells slots Q (F0 m (pc + pm_len i) ls stA2)) : W p l e R s m args below meth c H locs cells slots Q (F0 m pc ls stA) := by
  cases i
  case getfield idx =>
    obtain ⟨⟨a, r⟩, h1, h⟩ := Option.bind_eq_some_iff.mp h
    obtain ⟨⟨ci, k, nd, ps⟩, h2, h⟩ := Option.bind_eq_some_iff.mp h
    obtain ⟨fs, h3, h⟩ := Option.bind_eq_some_iff.mp h
    obtain ⟨v, h4, h⟩ := Option.bind_eq_some_iff.mp h
    cases h
    obtain rfl := pm_r1_ok h1
    obtain ⟨a', r', ha, rfl, hr⟩ := pm_rs_r hs
    obtain ⟨e', he, hc⟩ := hw.at (pm_ob_ok h3) ha
    obtain ⟨fs', rfl, hf⟩ := hc
    obtain ⟨w, hw1, hw2⟩ := pm_rs_get hf h4
    obtain ⟨C, F, N, hcl, hk, hdecl, hq⟩ := pm_fr_facts h2
    have hin := (pm_cl_ok hcl).2.2.1
    have hsame : ∀ x, s.fieldFound? (F k).1 (F k).2.1 (F k).2.2.1 = some x → s.fieldFound? C (F k).2.1 (F k).2.2.1 = some x := fun x q => by rw [hdecl] at q; exact q
    have k1 := kk (w :: r') ⟨hw2, hr⟩
    rcases hq with ⟨-, -, q⟩ | ⟨-, -, q⟩ | ⟨-, -, q⟩ | ⟨-, q⟩
    · exact va_get hx hb hts hin hown hK hP a he hcl k hk (hts _ q) hsame hw1 hd k1
    · exact va_getN hx hb hts hin hown hK hP a he hcl k hk ((hN.1 _ q rfl).use rfl) hsame hw1 hd k1
    · exact va_get hx hb hts hin hown hK hP a he hcl k hk (hts _ q) hsame hw1 hd k1
    · exact va_getN hx hb hts hin hown hK hP a he hcl k hk ((hN.1 _ q rfl).use rfl) hsame hw1 hd k1
  case iaload =>
    obtain ⟨⟨i, r⟩, h1, h9⟩ := Option.bind_eq_some_iff.mp h
    clear h
    obtain rfl := pm_i1_ok h1
    obtain ⟨r1, rfl, hr⟩ := pm_rs_i hs
    dsimp only at h9
    split at h9
    · rename_i r2 hr2
      obtain ⟨x, hscr, h8⟩ := Option.bind_eq_some_iff.mp h9
      obtain ⟨j, h3, h7⟩ := Option.bind_eq_some_iff.mp h8
      cases h7
      obtain ⟨k, rfl⟩ := pm_s1_ok hr2
      obtain ⟨r3, rfl, hr3⟩ := pm_rs_s hr
      obtain ⟨hin, rfl⟩ := pm_ix_ok h3
      obtain ⟨hX1, hX2, hX3⟩ := hX x hscr
      exact va_sld hx hb hX1 hX2 hX3 hS hin hd (kk _ ⟨rfl, hr3⟩)
    · obtain ⟨⟨a, r2⟩, h2, h9⟩ := Option.bind_eq_some_iff.mp h9
      obtain ⟨⟨n, f⟩, h3, h9⟩ := Option.bind_eq_some_iff.mp h9
      obtain ⟨j, h4, h9⟩ := Option.bind_eq_some_iff.mp h9
      cases h9
      obtain rfl := pm_r1_ok h2
      obtain ⟨a', r', ha, rfl, hr'⟩ := pm_rs_r hr
      obtain ⟨hin, rfl⟩ := pm_ix_ok h4
      obtain ⟨e', he, hc⟩ := hw.at (pm_ia_ok h3) ha
      obtain ⟨cA, rfl, q1, q2⟩ := hc
      exact va_iald hx hb (pm_K1 hK q1 q2) hP a 0 he rfl hin hd (kk _ ⟨rfl, hr'⟩)
  case baload =>
    obtain ⟨⟨i, r⟩, h1, h⟩ := Option.bind_eq_some_iff.mp h
    obtain ⟨⟨a, r2⟩, h2, h⟩ := Option.bind_eq_some_iff.mp h
    obtain ⟨⟨n, f⟩, h3, h⟩ := Option.bind_eq_some_iff.mp h
    obtain ⟨j, h4, h⟩ := Option.bind_eq_some_iff.mp h
    cases h
    obtain rfl := pm_i1_ok h1
    obtain ⟨r1, rfl, hr⟩ := pm_rs_i hs
    obtain rfl := pm_r1_ok h2
    obtain ⟨a', r', ha, rfl, hr'⟩ := pm_rs_r hr
    obtain ⟨hin, rfl⟩ := pm_ix_ok h4
    obtain ⟨e', he, hc⟩ := hw.at (pm_ia_ok h3) ha
    obtain ⟨cA, rfl, q1, q2⟩ := hc
    exact va_zald hx hb (pm_K1 hK q1 q2) hP a 0 he rfl hin hd (kk _ ⟨rfl, hr'⟩)
  case laload =>
    obtain ⟨⟨i, r⟩, h1, h⟩ := Option.bind_eq_some_iff.mp h
    obtain ⟨⟨a, r2⟩, h2, h⟩ := Option.bind_eq_some_iff.mp h
    obtain ⟨⟨n, f⟩, h3, h⟩ := Option.bind_eq_some_iff.mp h
    obtain ⟨j, h4, h⟩ := Option.bind_eq_some_iff.mp h
    cases h
    obtain rfl := pm_i1_ok h1
    obtain ⟨r1, rfl, hr⟩ := pm_rs_i hs
    obtain rfl := pm_r1_ok h2
    obtain ⟨a', r', ha, rfl, hr'⟩ := pm_rs_r hr
    obtain ⟨hin, rfl⟩ := pm_ix_ok h4
    obtain ⟨e', he, hc⟩ := hw.at (pm_la_ok h3) ha
    obtain ⟨cA, rfl, q1, q2⟩ := hc
    exact va_lald hx hb (pm_K1 hK q1 q2) hP a 0 he rfl hin hd (kk _ ⟨rfl, hr'⟩)
  case aaload =>
    obtain ⟨⟨i, r⟩, h1, h⟩ := Option.bind_eq_some_iff.mp h
    obtain ⟨⟨a, r2⟩, h2, h⟩ := Option.bind_eq_some_iff.mp h
    obtain ⟨⟨n, f⟩, h3, h⟩ := Option.bind_eq_some_iff.mp h
    obtain ⟨j, h4, h⟩ := Option.bind_eq_some_iff.mp h
    cases h
    obtain rfl := pm_i1_ok h1
    obtain ⟨r1, rfl, hr⟩ := pm_rs_i hs
    obtain rfl := pm_r1_ok h2
    obtain ⟨a', r', ha, rfl, hr'⟩ := pm_rs_r hr
    obtain ⟨hin, rfl⟩ := pm_ix_ok h4
    obtain ⟨e', he, hc⟩ := hw.at (pm_ra_ok h3) ha
    obtain ⟨cA, g, rfl, hg, q1, q2⟩ := hc
    have hv : pm_rv bS ad (pm_vo (f i.toNatClampNeg)) (va_rf (g i.toNatClampNeg)) := by
      have h9 := hg i.toNatClampNeg
      cases hf : f i.toNatClampNeg with
      | none => rw [hf] at h9; rw [show g i.toNatClampNeg = none from h9]; rfl
      | some k => rw [hf] at h9; obtain ⟨a9, h91, h92⟩ := h9; rw [h92]; exact ⟨a9, h91, rfl⟩
    exact va_aldq hx hb (pm_K1 hK q1 q2) hP a 0 he rfl hin hd (kk _ ⟨hv, hr'⟩)
  case arraylength =>
    replace h : (match pm_s1 st with
      | some r => scr.bind fun x => some (.int (Int32.ofNat x.1) :: r)
      | none => (pm_r1 st).bind fun w => (pm_aln ph w.1).bind fun n => some (.int (Int32.ofNat n) :: w.2)) = some st2 := h
    split at h
    · rename_i r2 hr2
      obtain ⟨x, rfl, h⟩ := Option.bind_eq_some_iff.mp h
      cases h
      obtain ⟨k, rfl⟩ := pm_s1_ok hr2
      obtain ⟨r3, rfl, hr3⟩ := pm_rs_s hs
      obtain ⟨hX1, hX2, hX3⟩ := hX x rfl
      exact va_slen hx hb hX1 hX2 hX3 hS hd (kk _ ⟨rfl, hr3⟩)
    · obtain ⟨⟨a, r2⟩, h2, h⟩ := Option.bind_eq_some_iff.mp h
      obtain ⟨n, h3, h⟩ := Option.bind_eq_some_iff.mp h
      cases h
      obtain rfl := pm_r1_ok h2
      obtain ⟨a', r', ha, rfl, hr'⟩ := pm_rs_r hs
      cases h0 : ph[a]? with
      | none =>
        replace h3 : pm_aln ph a = some n := h3
        unfold pm_aln at h3
        rw [h0] at h3
        cases h3
      | some e0 =>
        obtain ⟨e', he, hc⟩ := hw.at h0 ha
        exact pm_alen_ok hx hb hK hP h3 h0 he hc hd (kk _ ⟨rfl, hr'⟩)
  case ldc2_w idx =>
    obtain ⟨v, h1, h⟩ := Option.bind_eq_some_iff.mp h
    cases h
    exact lv_ldc2 hx hb hown (hts _ (List.mem_filter.mpr ⟨pm_lk_ok h1, rfl⟩)) hd (kk _ ⟨rfl, hs⟩)
  all_goals exact nomatch (show (none : Option (List Value)) = some st2 from h)
end PMHP
end
section
/-! THE PURE MACHINE, 5: writes and new cells are sound -/
theorem pm_ow_cl {ci : Nat} {r : vw_C} (h : pm_cl[ci]? = some r) : pm_ow ci = r.1 := by
  have hl : ci < pm_cl.length := (List.getElem?_eq_some_iff.mp h).1
  have h1 : (List.range pm_cl.length).all (fun k => decide (pm_ow k = (pm_cl.getD k ("", pm_F0, 0)).1)) = true := by decide +kernel
  have h2 := of_decide_eq_true (List.all_eq_true.mp h1 ci (List.mem_range.mpr hl))
  rw [h2, List.getD_eq_getElem?_getD, h]
  rfl
def pm_flv (v : Value) : Bool := match v with
  | .int _ => true
  | .long _ => true
  | .null => true
  | _ => false
theorem pm_rs_flat {bS : Nat} {ad : List Nat} : ∀ {fs : List Value}, fs.all pm_flv = true → pm_rs bS ad fs fs
  | [], _ => trivial
  | v :: r, h => by
    rw [List.all_cons, Bool.and_eq_true] at h
    refine ⟨?_, pm_rs_flat h.2⟩
    cases v with
    | int x => rfl
    | long x => rfl
    | null => rfl
    | _ => cases h.1
theorem pm_dfs_flat {ci : Nat} {fs : List Value} (h : pm_dfs[ci]? = some fs) {bS : Nat} {ad : List Nat} : pm_rs bS ad fs fs := by
  have h1 : pm_dfs.all (fun q => q.all pm_flv) = true := by decide +kernel
  exact pm_rs_flat (List.all_eq_true.mp h1 fs (List.mem_of_getElem? h))
theorem pm_arr_ok {a : ArrayType} {p : Nat} (h : (a, p) ∈ pm_arp) : Cond.arrayClass (newarray.typeOf a) ∈ pm_tb := pm_at_good (List.all_eq_true.mp pm_arp_ok _ h) rfl
section PMWR
variable {p : Program} {l : Launch} {e : Env} {R : Room} {s : State} {m : MethodId} {args : Array Value} {below : List Frame} {meth : Method} {c : Code} {H : Heap} {locs : List Loc} {cells slots : Nat} {Q : State → Prop}
variable {cc : ByteArray} {pc nL : Nat} {ls : Array Slot} {bS : Nat} {ad : List Nat} {D : va_G} {A : Nat → Prop} {H0 : Heap} {ws : va_W} {ph : List va_E} {T : pm_M}
theorem pm_wr_ok (hx : p.tables.exec = Jvm.exec) (hb : c.code = cc) (hown : s.vm.findClass (pm_ow (pm_cn T)) = some m.cls) (hini : pm_ini T = true → meth.name = "<init>") (hts : ∀ w ∈ pm_tb, w.before args s = true) (hN : pm_Nn s) (hK : va_K D pm_cl [] s) (hP : va_P D pm_cl ws H) (hD : va_D A ws) (hS : va_S A H0 H locs) (hw : pm_rw bS ad s ph ws)
    {i : Instr} {st st2 stA : List Value} {k2 : Nat} {e2 : va_E} (h : pm_wr T i st ph = some (st2, k2, e2)) (hd : decode cc pc = .ok (i, pm_len i)) (hs : pm_rs bS ad st stA)
    (kk : ∀ (H1 : Heap) (locs1 : List Loc) (ws1 : va_W) (stA2 : List Value), va_P D pm_cl ws1 H1 → va_D A ws1 → va_S A H0 H1 locs1 → pm_rw bS ad s (ph.set k2 e2) ws1 → pm_rs bS ad st2 stA2 → W p l e R s m args below meth c H1 locs1 cells slots Q (F0 m (pc + pm_len i) ls stA2)) : W p l e R s m args below meth c H locs cells slots Q (F0 m pc ls stA) := by
  cases i
  case putfield idx =>
    replace h : pm_pf T idx st ph = some (st2, k2, e2) := h
    unfold pm_pf at h
    split at h
    · rename_i v st1
      obtain ⟨⟨a, r⟩, h1, h⟩ := Option.bind_eq_some_iff.mp h
      obtain ⟨⟨ci, k, nd, ps⟩, h2, h⟩ := Option.bind_eq_some_iff.mp h
      obtain ⟨fs, h3, h⟩ := Option.bind_eq_some_iff.mp h
      dsimp only at h
      split at h
      · rename_i hcond
        obtain ⟨hfit, hlen, hkind⟩ := hcond
        cases h
        obtain ⟨w, r0, rfl, hv, hr0⟩ := pm_rs_cons hs
        obtain rfl := pm_r1_ok h1
        obtain ⟨a', r', ha, rfl, hr⟩ := pm_rs_r hr0
        obtain ⟨e', he, hc⟩ := hw.at (pm_ob_ok h3) ha
        obtain ⟨fs', rfl, hf⟩ := hc
        obtain ⟨C, F, N, hcl, hk, hdecl, hq⟩ := pm_fr_facts h2
        have hin := (pm_cl_ok hcl).2.2.1
        have hty := (pm_cl_ok hcl).1
        have hnm := (pm_cl_ok hcl).2.1
        have hsame : ∀ x, s.fieldFound? (F k).1 (F k).2.1 (F k).2.2.1 = some x → s.fieldFound? C (F k).2.1 (F k).2.2.1 = some x := fun x q => by rw [hdecl] at q; exact q
        obtain ⟨hn, hft⟩ := pm_fit_ok hfit hv
        have hl' : k < fs'.length := by rw [pm_rs_len hf]; exact hlen
        have k1 : ∀ (H1 : Heap) (locs1 : List Loc), va_P D pm_cl (ws.set k2 (a', .inr (ci, fs'.set k w))) H1 → va_D A (ws.set k2 (a', .inr (ci, fs'.set k w))) → va_S A H0 H1 locs1 → W p l e R s m args below meth c H1 locs1 cells slots Q (F0 m (pc + 3) ls r') := fun H1 locs1 hP1 hD1 hS1 => kk H1 locs1 _ _ hP1 hD1 hS1 (hw.set he ⟨_, rfl, pm_rs_set hv hf⟩) hr
        rcases hq with ⟨rfl, hfin, q⟩ | ⟨rfl, hfin, q⟩ | ⟨rfl, hfin, q⟩ | ⟨rfl, q⟩
        · exact va_put hx hb hts hin (pm_fty ci) hty hnm hown hK hP hD hS k2 he hcl k hk (hts _ q) hsame hfin (hty k hk) hn hft hl' hd k1
        · exact va_putN hx hb hts hin (pm_fty ci) hty hnm hown hK hP hD hS k2 he hcl k hk ((hN.1 _ q rfl).use rfl) hsame hfin (hty k hk) hn hft hl' hd k1
        · rcases hkind with h9 | h9 | ⟨-, h9, h10⟩
          · cases h9
          · cases h9
          · have hown2 : (F k).1 = pm_ow (pm_cn T) := by
              rw [hdecl]
              have := pm_ow_cl hcl
              rw [h10] at this
              exact this.symm
            exact va_putF hx hb hts hin (pm_fty ci) hty hnm hown hK hP hD hS k2 he hcl k hk (hts _ q) hsame hfin (hini h9) hown2 (hty k hk) hn hft hl' hd k1
        · rcases hkind with h9 | h9 | ⟨h9, -, -⟩ <;> cases h9
      · cases h
    · cases h
  case iastore =>
    obtain ⟨⟨v, r0⟩, h0, h⟩ := Option.bind_eq_some_iff.mp h
    obtain ⟨⟨i, r⟩, h1, h⟩ := Option.bind_eq_some_iff.mp h
    obtain ⟨⟨a, r2⟩, h2, h⟩ := Option.bind_eq_some_iff.mp h
    obtain ⟨⟨n, f⟩, h3, h⟩ := Option.bind_eq_some_iff.mp h
    obtain ⟨j, h4, h⟩ := Option.bind_eq_some_iff.mp h
    cases h
    obtain rfl := pm_i1_ok h0
    obtain ⟨r9, rfl, hs9⟩ := pm_rs_i hs
    obtain rfl := pm_i1_ok h1
    obtain ⟨r1, rfl, hr⟩ := pm_rs_i hs9
    obtain rfl := pm_r1_ok h2
    obtain ⟨a', r', ha, rfl, hr'⟩ := pm_rs_r hr
    obtain ⟨hin, rfl⟩ := pm_ix_ok h4
    obtain ⟨e', he, hc⟩ := hw.at (pm_ia_ok h3) ha
    obtain ⟨cA, rfl, q1, q2⟩ := hc
    exact va_iast hx hb (pm_K1 hK q1 q2) hP hD hS a 0 he rfl hin hd (fun H1 locs1 hP1 hD1 hS1 => kk H1 locs1 _ _ hP1 hD1 hS1 (hw.set he ⟨cA, rfl, q1, q2⟩) hr')
  case bastore =>
    obtain ⟨⟨v, r0⟩, h0, h⟩ := Option.bind_eq_some_iff.mp h
    obtain ⟨⟨i, r⟩, h1, h⟩ := Option.bind_eq_some_iff.mp h
    obtain ⟨⟨a, r2⟩, h2, h⟩ := Option.bind_eq_some_iff.mp h
    obtain ⟨⟨n, f⟩, h3, h⟩ := Option.bind_eq_some_iff.mp h
    obtain ⟨j, h4, h⟩ := Option.bind_eq_some_iff.mp h
    cases h
    obtain rfl := pm_i1_ok h0
    obtain ⟨r9, rfl, hs9⟩ := pm_rs_i hs
    obtain rfl := pm_i1_ok h1
    obtain ⟨r1, rfl, hr⟩ := pm_rs_i hs9
    obtain rfl := pm_r1_ok h2
    obtain ⟨a', r', ha, rfl, hr'⟩ := pm_rs_r hr
    obtain ⟨hin, rfl⟩ := pm_ix_ok h4
    obtain ⟨e', he, hc⟩ := hw.at (pm_ia_ok h3) ha
    obtain ⟨cA, rfl, q1, q2⟩ := hc
    exact va_zast hx hb (pm_K1 hK q1 q2) hP hD hS a 0 he rfl hin hd (fun H1 locs1 hP1 hD1 hS1 => kk H1 locs1 _ _ hP1 hD1 hS1 (hw.set he ⟨cA, rfl, q1, q2⟩) hr')
  case lastore =>
    obtain ⟨⟨v, r0⟩, h0, h⟩ := Option.bind_eq_some_iff.mp h
    obtain ⟨⟨i, r⟩, h1, h⟩ := Option.bind_eq_some_iff.mp h
    obtain ⟨⟨a, r2⟩, h2, h⟩ := Option.bind_eq_some_iff.mp h
    obtain ⟨⟨n, f⟩, h3, h⟩ := Option.bind_eq_some_iff.mp h
    obtain ⟨j, h4, h⟩ := Option.bind_eq_some_iff.mp h
    cases h
    obtain rfl := pm_l1_ok h0
    obtain ⟨r9, rfl, hs9⟩ := pm_rs_l hs
    obtain rfl := pm_i1_ok h1
    obtain ⟨r1, rfl, hr⟩ := pm_rs_i hs9
    obtain rfl := pm_r1_ok h2
    obtain ⟨a', r', ha, rfl, hr'⟩ := pm_rs_r hr
    obtain ⟨hin, rfl⟩ := pm_ix_ok h4
    obtain ⟨e', he, hc⟩ := hw.at (pm_la_ok h3) ha
    obtain ⟨cA, rfl, q1, q2⟩ := hc
    exact va_last hx hb (pm_K1 hK q1 q2) hP hD hS a 0 he rfl hin hd (fun H1 locs1 hP1 hD1 hS1 => kk H1 locs1 _ _ hP1 hD1 hS1 (hw.set he ⟨cA, rfl, q1, q2⟩) hr')
  case aastore =>
    obtain ⟨⟨v, r0⟩, h0, h⟩ := Option.bind_eq_some_iff.mp h
    obtain ⟨⟨i, r⟩, h1, h⟩ := Option.bind_eq_some_iff.mp h
    obtain ⟨⟨a, r2⟩, h2, h⟩ := Option.bind_eq_some_iff.mp h
    obtain ⟨⟨n, f⟩, h3, h⟩ := Option.bind_eq_some_iff.mp h
    obtain ⟨j, h4, h⟩ := Option.bind_eq_some_iff.mp h
    obtain ⟨fs, h5, h⟩ := Option.bind_eq_some_iff.mp h
    cases h
    obtain rfl := pm_r1_ok h0
    obtain ⟨v', r9, hva, rfl, hs9⟩ := pm_rs_r hs
    obtain rfl := pm_i1_ok h1
    obtain ⟨r1, rfl, hr⟩ := pm_rs_i hs9
    obtain rfl := pm_r1_ok h2
    obtain ⟨a', r', ha, rfl, hr'⟩ := pm_rs_r hr
    obtain ⟨hin, rfl⟩ := pm_ix_ok h4
    obtain ⟨e', he, hc⟩ := hw.at (pm_ra_ok h3) ha
    obtain ⟨cA, g, rfl, hg, q1, q2⟩ := hc
    obtain ⟨e9, he9, hc9⟩ := hw.at (pm_ob_ok h5) hva
    obtain ⟨fs9, rfl, -⟩ := hc9
    have hro : ∀ j9, pm_ro ad (va_up f i.toNatClampNeg (some v) j9) (va_up g i.toNatClampNeg (some v') j9) := by
      intro j9
      unfold va_up
      split
      · exact ⟨v', hva, rfl⟩
      · exact hg j9
    exact va_astq (r := ("LambdaShelf$Code", pm_F1, 3)) hx hb (pm_K1 hK q1 q2) hP hD hS a 0 v pm_cC he rfl he9 rfl hin hd (fun H1 locs1 hP1 hD1 hS1 => kk H1 locs1 _ _ hP1 hD1 hS1 (hw.set he ⟨cA, _, rfl, hro, q1, q2⟩) hr')
  all_goals exact nomatch (show (none : Option (List Value × Nat × va_E)) = some (st2, k2, e2) from h)
theorem pm_nw_ok (hx : p.tables.exec = Jvm.exec) (hb : c.code = cc) (hown : s.vm.findClass (pm_ow (pm_cn T)) = some m.cls) (hts : ∀ w ∈ pm_tb, w.before args s = true) (hN : pm_Nn s) (hK : va_K D pm_cl [] s) (hP : va_P D pm_cl ws H) (hD : va_D A ws) (hS : va_S A H0 H locs) (hA : ∀ q, H0.size ≤ q → A q) (hw : pm_rw bS ad s ph ws)
    {i : Instr} {st st2 stA : List Value} {n2 : Nat} {e2 : va_E} (h : pm_nw T i st = some (st2, e2, n2)) (hd : decode cc pc = .ok (i, pm_len i)) (hs : pm_rs bS ad st stA) (hcells : cells + 1 ≤ R.cells) (hslots : slots + n2 ≤ R.slots)
    (kk : ∀ (q : Nat) (H1 : Heap) (ws1 : va_W) (stA2 : List Value), va_P D pm_cl ws1 H1 → va_D A ws1 → va_S A H0 H1 locs → pm_rw bS (ad ++ [q]) s (ph ++ [e2]) ws1 → pm_rs bS (ad ++ [q]) (.ref ph.length :: st2) stA2 → W p l e R s m args below meth c H1 locs (cells + 1) (slots + n2) Q (F0 m (pc + pm_len i) ls stA2)) : W p l e R s m args below meth c H locs cells slots Q (F0 m pc ls stA) := by
  cases i
  case new idx =>
    obtain ⟨⟨ci, ps⟩, h1, h⟩ := Option.bind_eq_some_iff.mp h
    obtain ⟨fs, h2, h⟩ := Option.bind_eq_some_iff.mp h
    cases h
    have hck := pm_nr_ok h1
    unfold pm_nck at hck
    dsimp only at hck
    cases hcl : pm_cl[ci]? with
    | none => rw [hcl] at hck; cases hck
    | some r =>
      obtain ⟨C, F, N⟩ := r
      rw [hcl] at hck
      obtain ⟨hty, hnm, hin, hinst, hini, fs0, hf1, hf2, hf3⟩ := pm_cl_ok hcl
      try dsimp only at h2 hf1 hf2 hf3
      rw [hf1] at h2
      cases h2
      try dsimp only at hf2
      rw [hf2] at hslots kk
      exact va_new hx hb hts hin (pm_fty ci) hty hown (hts _ (pm_at_good hck rfl)) (hts _ hinst) (hts _ hini) hK hP hD hS hA hcl hf3 hcells hslots hd (fun q H1 hP1 hD1 hS1 => kk q H1 _ _ hP1 hD1 hS1 (hw.push ⟨_, rfl, pm_dfs_flat hf1⟩) ⟨⟨q, hw.new q, rfl⟩, hs.mono⟩)
  case newarray ty =>
    cases ty
    case int =>
      obtain ⟨⟨n, r⟩, h1, h⟩ := Option.bind_eq_some_iff.mp h
      dsimp only at h
      split at h
      · cases h
      · rename_i hc
        cases h
        obtain rfl := pm_i1_ok h1
        obtain ⟨r1, rfl, hr⟩ := pm_rs_i hs
        exact va_newa (ty := .int) (a0 := (n.toNatClampNeg, .inl (fun _ => 0))) hx hb (hts _ (pm_arr_ok (a := .int) List.mem_cons_self)) rfl hK hP hD hS hA (fun cA => rfl) (fun q => hc (Or.inl q)) rfl (by show _ * 4 ≤ _; omega) hcells hslots hd (fun q cA H1 hK1 hP1 hD1 hS1 => kk q H1 _ _ hP1 hD1 hS1 (hw.push ⟨cA, rfl, (hK1.2 0 _ rfl).1, (hK1.2 0 _ rfl).2⟩) ⟨⟨q, hw.new q, rfl⟩, hr.mono⟩)
    case boolean =>
      obtain ⟨⟨n, r⟩, h1, h⟩ := Option.bind_eq_some_iff.mp h
      dsimp only at h
      split at h
      · cases h
      · rename_i hc
        cases h
        obtain rfl := pm_i1_ok h1
        obtain ⟨r1, rfl, hr⟩ := pm_rs_i hs
        exact va_newa (ty := .boolean) (a0 := (n.toNatClampNeg, .inl (fun _ => 0))) hx hb (hts _ (pm_arr_ok (a := .boolean) (List.mem_cons_of_mem _ List.mem_cons_self))) rfl hK hP hD hS hA (fun cA => rfl) (fun q => hc (Or.inl q)) rfl (by show _ * 1 ≤ _; omega) hcells hslots hd (fun q cA H1 hK1 hP1 hD1 hS1 => kk q H1 _ _ hP1 hD1 hS1 (hw.push ⟨cA, rfl, (hK1.2 0 _ rfl).1, (hK1.2 0 _ rfl).2⟩) ⟨⟨q, hw.new q, rfl⟩, hr.mono⟩)
    case long =>
      obtain ⟨⟨n, r⟩, h1, h⟩ := Option.bind_eq_some_iff.mp h
      dsimp only at h
      split at h
      · cases h
      · rename_i hc
        cases h
        obtain rfl := pm_i1_ok h1
        obtain ⟨r1, rfl, hr⟩ := pm_rs_i hs
        exact va_newa (ty := .long) (a0 := (n.toNatClampNeg, .inr (.inl (fun _ => 0)))) hx hb (hts _ (pm_arr_ok (a := .long) (List.mem_cons_of_mem _ (List.mem_cons_of_mem _ List.mem_cons_self)))) rfl hK hP hD hS hA (fun cA => rfl) (fun q => hc (Or.inl q)) rfl (by show _ * 8 ≤ _; omega) hcells hslots hd (fun q cA H1 hK1 hP1 hD1 hS1 => kk q H1 _ _ hP1 hD1 hS1 (hw.push ⟨cA, rfl, (hK1.2 0 _ rfl).1, (hK1.2 0 _ rfl).2⟩) ⟨⟨q, hw.new q, rfl⟩, hr.mono⟩)
    all_goals exact nomatch (show (none : Option (List Value × va_E × Nat)) = some (st2, e2, n2) from h)
  case anewarray idx =>
    obtain ⟨ps, h0, h⟩ := Option.bind_eq_some_iff.mp h
    obtain ⟨⟨n, r⟩, h1, h⟩ := Option.bind_eq_some_iff.mp h
    dsimp only at h
    split at h
    · cases h
    · rename_i hc
      cases h
      obtain rfl := pm_i1_ok h1
      obtain ⟨r1, rfl, hr⟩ := pm_rs_i hs
      exact va_newq hx hb hown (hts _ (List.mem_filter.mpr ⟨pm_ar_ok h0, rfl⟩)) hN.2 hK hP hD hS hA (fun q => hc (Or.inl q)) rfl (by omega) hcells hslots hd (fun q cA H1 hK1 hP1 hD1 hS1 => kk q H1 _ _ hP1 hD1 hS1 (hw.push ⟨cA, _, rfl, fun j => rfl, (hK1.2 0 _ rfl).1, (hK1.2 0 _ rfl).2⟩) ⟨⟨q, hw.new q, rfl⟩, hr.mono⟩)
  all_goals exact nomatch (show (none : Option (List Value × va_E × Nat)) = some (st2, e2, n2) from h)
end PMWR
end
section
/-! THE PURE MACHINE, 6: library calls, returns, calls, the run -/
def pm_sum (st : List Value) : Nat := (st.map fun v => v.category).sum
def pm_mx (k : Nat) (st : List Value) : Option (List Value) := match st with
  | .int y :: .int x :: r => if pm_sum r ≤ 8 then (if k = 5 then some (.int (if x < y then y else x) :: r) else if k = 6 then some (.int (if y < x then y else x) :: r) else none) else none
  | _ => none
def pm_oi (k : Nat) (st : List Value) : Option (List Value) := match st with
  | .ref _ :: r => if k = 4 ∧ pm_sum r ≤ 8 then some r else none
  | _ => none
def pm_nat (T : pm_M) (i : Instr) (st : List Value) : Option (List Value) := match i with
  | .invokestatic idx => (pm_mr (pm_cn T) idx).bind fun w => pm_mx w.1 st
  | .invokespecial idx => (pm_mr (pm_cn T) idx).bind fun w => pm_oi w.1 st
  | _ => none
def pm_cp5 (k : Nat) (st : List Value) (ph : List va_E) : Option (List Value × Nat × va_E) := match st with
  | .int n :: .int dp :: .ref a :: .int sp :: .ref b :: r => (pm_ia ph b 0).bind fun x => (pm_ia ph a 0).bind fun y =>
    if k = 7 ∧ ¬ sp < 0 ∧ ¬ dp < 0 ∧ ¬ n < 0 ∧ sp.toNatClampNeg + n.toNatClampNeg ≤ x.1 ∧ dp.toNatClampNeg + n.toNatClampNeg ≤ y.1 ∧ pm_sum r ≤ 8 then some (r, a, .inl (0, y.1, .inl (va_cpy x.2 y.2 sp.toNatClampNeg dp.toNatClampNeg n.toNatClampNeg))) else none
  | _ => none
def pm_cpw (T : pm_M) (i : Instr) (st : List Value) (ph : List va_E) : Option (List Value × Nat × va_E) := match i with
  | .invokestatic idx => (pm_mr (pm_cn T) idx).bind fun w => pm_cp5 w.1 st ph
  | _ => none
def pm_rvd (T : pm_M) (st : List Value) : Option (Option Value) := match st, pm_re T with
  | [], none => some none
  | _, _ => none
def pm_rin (T : pm_M) (st : List Value) : Option (Option Value) := match st, pm_re T with
  | [.int v], some ty => if pm_fit ty (.int v) = true then some (some (.int v)) else none
  | _, _ => none
def pm_rar (T : pm_M) (st : List Value) : Option (Option Value) := match st, pm_re T with
  | [.ref a], some (.object _) => some (some (.ref a))
  | [.null], some (.object _) => some (some .null)
  | _, _ => none
def pm_ret (T : pm_M) (i : Instr) (st : List Value) : Option (Option Value) := match i with
  | .return_ => pm_rvd T st
  | .ireturn => pm_rin T st
  | .areturn => pm_rar T st
  | _ => none
def pm_cal (T : pm_M) (i : Instr) (st : List Value) (ph : List va_E) : Option (pm_M × List Value × List Value) := match i with
  | .invokevirtual idx => (pm_mr (pm_cn T) idx).bind fun w => (pm_tab[w.2.1]?).bind fun T2 => (pm_r1 (st.drop (pm_na T2))).bind fun q => (pm_ob ph q.1 (pm_cn T2)).bind fun _ =>
    if w.1 = 0 ∧ pm_sum q.2 ≤ 8 ∧ pm_sum (.ref q.1 :: (st.take (pm_na T2)).reverse) ≤ pm_ml T2 ∧ (st.take (pm_na T2)).length = pm_na T2 ∧ pm_ps T2 ≠ 0 then some (T2, .ref q.1 :: (st.take (pm_na T2)).reverse, q.2) else none
  | .invokespecial idx => (pm_mr (pm_cn T) idx).bind fun w => (pm_tab[w.2.1]?).bind fun T2 => (pm_r1 (st.drop (pm_na T2))).bind fun q =>
    if (w.1 = 1 ∨ w.1 = 2) ∧ pm_sum q.2 ≤ 8 ∧ pm_sum (.ref q.1 :: (st.take (pm_na T2)).reverse) ≤ pm_ml T2 ∧ (st.take (pm_na T2)).length = pm_na T2 ∧ pm_ps T2 ≠ 0 then some (T2, .ref q.1 :: (st.take (pm_na T2)).reverse, q.2) else none
  | .invokestatic idx => (pm_mr (pm_cn T) idx).bind fun w => (pm_tab[w.2.1]?).bind fun T2 =>
    if w.1 = 3 ∧ pm_sum (st.drop (pm_na T2)) ≤ 8 ∧ pm_sum (st.take (pm_na T2)).reverse ≤ pm_ml T2 ∧ (st.take (pm_na T2)).length = pm_na T2 ∧ pm_ps T2 ≠ 0 then some (T2, (st.take (pm_na T2)).reverse, st.drop (pm_na T2)) else none
  | _ => none
def pm_run : Nat → Option (Nat × (Nat → Int32)) → Nat → pm_M → Nat → pm_L → List Value → List va_E → Nat → Nat → Option (Option Value × List va_E × Nat × Nat)
  | 0, _, _, _, _, _, _, _, _, _ => none
  | f + 1, scr, d, T, pc, lv, st, ph, nc, ns =>
    match pm_as (pm_cd T) pc with
    | none => none
    | some w =>
      match pm_sim (pm_ml T) w.1 lv st with
      | some x => pm_run f scr d T (pc + pm_len w.1) x.1 x.2 ph nc ns
      | none => match pm_jmp w.1 pc st with
        | some x => pm_run f scr d T x.1 lv x.2 ph nc ns
        | none => match pm_rd T scr w.1 st ph with
          | some x => pm_run f scr d T (pc + pm_len w.1) lv x ph nc ns
          | none => match pm_wr T w.1 st ph with
            | some x => pm_run f scr d T (pc + pm_len w.1) lv x.1 (ph.set x.2.1 x.2.2) nc ns
            | none => match pm_nw T w.1 st with
              | some x => pm_run f scr d T (pc + pm_len w.1) lv (.ref ph.length :: x.1) (ph ++ [x.2.1]) (nc + 1) (ns + x.2.2)
              | none => match pm_nat T w.1 st with
                | some x => pm_run f scr d T (pc + pm_len w.1) lv x ph nc ns
                | none => match pm_cpw T w.1 st ph with
                  | some x => pm_run f scr d T (pc + pm_len w.1) lv x.1 (ph.set x.2.1 x.2.2) nc ns
                  | none => match pm_ret T w.1 st with
                    | some v => some (v, ph, nc, ns)
                    | none => match d with
                      | 0 => none
                      | d2 + 1 => match pm_cal T w.1 st ph with
                        | none => none
                        | some x => match pm_run f none d2 x.1 0 (lv_args 0 x.2.1) [] ph 0 0 with
                          | none => none
                          | some y => pm_run f scr (d2 + 1) T (pc + pm_len w.1) lv (y.1.toList ++ x.2.2) y.2.1 (nc + y.2.2.1) (ns + y.2.2.2)
theorem pm_run_mono : ∀ (f : Nat) {scr : Option (Nat × (Nat → Int32))} {d : Nat} {T : pm_M} {pc : Nat} {lv : pm_L} {st : List Value} {ph : List va_E} {nc ns : Nat} {v : Option Value} {ph2 : List va_E} {nc2 ns2 : Nat}, pm_run f scr d T pc lv st ph nc ns = some (v, ph2, nc2, ns2) → nc ≤ nc2 ∧ ns ≤ ns2
  | 0, _, _, _, _, _, _, _, _, _, _, _, _, _, h => by cases h
  | f + 1, scr, d, T, pc, lv, st, ph, nc, ns, v, ph2, nc2, ns2, h => by
    unfold pm_run at h
    split at h
    · cases h
    split at h
    · exact pm_run_mono f h
    split at h
    · exact pm_run_mono f h
    split at h
    · exact pm_run_mono f h
    split at h
    · exact pm_run_mono f h
    split at h
    · have := pm_run_mono f h
      omega
    split at h
    · exact pm_run_mono f h
    split at h
    · exact pm_run_mono f h
    split at h
    · cases h
      exact ⟨Nat.le_refl _, Nat.le_refl _⟩
    split at h
    · cases h
    split at h
    · cases h
    split at h
    · cases h
    have := pm_run_mono f h
    omega
theorem pm_isw_none {i : Instr} (h : pm_isw i = true) (nL : Nat) (lv : pm_L) (st : List Value) (T : pm_M) (scr : Option (Nat × (Nat → Int32))) (ph : List va_E) : pm_sim nL i lv st = none ∧ pm_rd T scr i st ph = none ∧ pm_wr T i st ph = none ∧ pm_nw T i st = none ∧ pm_nat T i st = none ∧ pm_cpw T i st ph = none ∧ pm_ret T i st = none ∧ pm_cal T i st ph = none := by
  cases i
  case tableswitch => exact ⟨rfl, rfl, rfl, rfl, rfl, rfl, rfl, rfl⟩
  case lookupswitch => exact ⟨rfl, rfl, rfl, rfl, rfl, rfl, rfl, rfl⟩
  all_goals cases h
theorem pm_lg_len : ∀ (vs : List Value), (lg_sl vs).length = pm_sum vs
  | [] => rfl
  | v :: r => by
    have ih := pm_lg_len r
    unfold lg_sl pm_sum at *
    rw [List.flatMap_cons, List.length_append, ih, List.map_cons, List.sum_cons]
    rcases lv_cat v with hc | hc
    · rw [if_neg (by omega), hc]; rfl
    · rw [if_pos hc, hc]; rfl
theorem pm_rs_sum {bS : Nat} {ad : List Nat} {a a' : List Value} (h : pm_rs bS ad a a') : pm_sum a' = pm_sum a := by
  unfold pm_sum
  rw [pm_rs_cats h]
theorem pm_rl_args {bS : Nat} {ad : List Nat} : ∀ {a a' : List Value} (n : Nat), pm_rs bS ad a a' → pm_rl bS ad (lv_args n a) (lv_args n a')
  | [], [], _, _ => trivial
  | v :: r, w :: r', n, h => by
    unfold lv_args
    rw [h.1.cat]
    exact ⟨rfl, h.1, pm_rl_args _ h.2⟩
  | [], _ :: _, _, h => h.elim
  | _ :: _, [], _, h => h.elim
def pm_rov (bS : Nat) (ad : List Nat) (v w : Option Value) : Prop := match v, w with
  | none, none => True
  | some v, some w => pm_rv bS ad v w
  | _, _ => False
def pm_PC (bS : Nat) (D : va_G) (ws : va_W) (ad : List Nat) (ph : List va_E) (sz : Nat) (U : State) : Prop := U.heap.size = sz ∧ va_P D pm_cl ws U.heap ∧ va_K D pm_cl [] U ∧ va_D (fun _ => True) ws ∧ pm_Nn U ∧ pm_rw bS ad U ph ws
def pm_QC (bS : Nat) (D : va_G) (ws : va_W) (ad : List Nat) (sz : Nat) (v : Option Value) (ph2 : List va_E) : Array Value → State → Outcome → State → Prop := fun _ st oc t => (∃ (vA : Option Value) (ad2 : List Nat) (ws2 : va_W), oc = .returned vA ∧ pm_rov bS (ad ++ ad2) v vA ∧ pm_rw bS (ad ++ ad2) t ph2 ws2 ∧ va_P D pm_cl ws2 t.heap ∧ va_D (va_A ws sz) ws2) ∧ va_F (va_A ws sz) st t
def pm_wd (T : pm_M) : List Cond := .code (pm_nm T) (pm_by T) (pm_ml T) (pm_re T) :: pm_tb
def pm_rm (d c n : Nat) : Room := { frames := d + 1, cells := c, slots := n, locals := 40 * (d + 1) }
def pm_cx (D : va_G) (p : Program) (s : State) (m : MethodId) (args : Array Value) (meth : Method) (c : Code) (T : pm_M) : Prop :=
  p.tables.exec = Jvm.exec ∧ c.code = pm_by T ∧ c.maxLocals = pm_ml T ∧ s.vm.findClass (pm_ow (pm_cn T)) = some m.cls ∧ (pm_ini T = true → meth.name = "<init>") ∧ (∀ w ∈ pm_tb, w.before args s = true) ∧ pm_Nn s ∧ va_K D pm_cl [] s
/-- the machine does what a run of f steps says -/
def pm_Snd (l : Launch) (f : Nat) : Prop := ∀ (bS : Nat) (scr : Option (Nat × (Nat → Int32))) (d : Nat) (T : pm_M) (pc : Nat) (lv : pm_L) (st : List Value) (ph : List va_E) (nc ns : Nat) (v : Option Value) (ph2 : List va_E) (nc2 ns2 : Nat), pm_run f scr d T pc lv st ph nc ns = some (v, ph2, nc2, ns2) → pm_dck T = true →
  ∀ (D : va_G) (p : Program) (e : Env) (R : Room) (s : State) (m : MethodId) (args : Array Value) (below : List Frame) (meth : Method) (c : Code) (H : Heap) (locs : List Loc) (Q : State → Prop) (A : Nat → Prop) (H0 : Heap) (ws : va_W) (ad : List Nat) (ls : Array Slot) (lvA : pm_L) (stA : List Value),
  pm_cx D p s m args meth c T → d + 1 ≤ R.frames → 40 * (d + 1) ≤ R.locals → nc2 ≤ R.cells → ns2 ≤ R.slots →
  va_P D pm_cl ws H → va_D A ws → va_S A H0 H locs → (∀ q, H0.size ≤ q → A q) → pm_rw bS ad s ph ws → lv_has ls (pm_ml T) lvA → pm_rl bS ad lv lvA → pm_rs bS ad st stA → (∀ x, scr = some x → va_X bS x.1 x.2 s H0 ∧ bS < H0.size ∧ ¬ A bS) →
  (∀ (H1 : Heap) (locs1 : List Loc) (ws1 : va_W) (ad2 : List Nat) (ls1 : Array Slot) (pc1 : Nat) (i1 : Instr) (st1 stA1 : List Value), pm_ret T i1 st1 = some v → decode (pm_by T) pc1 = .ok (i1, pm_len i1) → pm_rs bS (ad ++ ad2) st1 stA1 → pm_rw bS (ad ++ ad2) s ph2 ws1 → va_P D pm_cl ws1 H1 → va_D A ws1 → va_S A H0 H1 locs1 → W p l e R s m args below meth c H1 locs1 nc2 ns2 Q (F0 m pc1 ls1 stA1)) →
  W p l e R s m args below meth c H locs nc ns Q (F0 m pc ls stA)
/-- what a method's row of the table says -/
theorem pm_tck_use {T : pm_M} (h : pm_tck T = true) : pm_ow (pm_cn T) = (pm_nm T).cls ∧ (pm_ini T = true → (pm_nm T).name = "<init>") ∧ (pm_ps T ≠ 0 → Cond.initialized (pm_nm T).cls ∈ pm_tb ∧ plainName (pm_nm T).cls = true ∧ (pm_nm T).cls ≠ "java/lang/invoke/MethodHandle" ∧ (pm_nm T).cls ≠ "java/lang/invoke/VarHandle" ∧ (parseMethodDescriptor (pm_nm T).desc).map (fun d => d.parameters.length) = some (pm_na T) ∧ pm_ml T ≤ 21) := by
  unfold pm_tck at h
  simp only [Bool.and_eq_true, Bool.or_eq_true, decide_eq_true_eq, Bool.not_eq_true'] at h
  obtain ⟨⟨h1, h2⟩, h3⟩ := h
  refine ⟨h1, fun q => ?_, fun q => ?_⟩
  · rcases h2 with h2 | h2
    · rw [h2] at q; cases q
    · exact h2
  · rcases h3 with h3 | h3
    · exact absurd h3 q
    · obtain ⟨⟨⟨⟨⟨a2, a3⟩, a4⟩, a5⟩, a6⟩, a7⟩ := h3
      exact ⟨pm_at_good a2 rfl, a3, a4, a5, a6, a7⟩
theorem pm_met {l : Launch} {f : Nat} (hf : pm_Snd l f) {bS d : Nat} {T : pm_M} {as : List Value} {ph : List va_E} {v : Option Value} {ph2 : List va_E} {c2 n2 : Nat} (h : pm_run f none d T 0 (lv_args 0 as) [] ph 0 0 = some (v, ph2, c2, n2)) (hg : pm_dck T = true) (ht : pm_tck T = true) (hps : pm_ps T ≠ 0) (hsum : pm_sum as ≤ pm_ml T)
    {D : va_G} {ws : va_W} {ad : List Nat} {sz : Nat} {asA : List Value} (has : pm_rs bS ad as asA) : Met l (pm_nm T) (pm_wd T) (pm_rm d c2 n2) (va_Pc asA (pm_PC bS D ws ad ph sz)) (pm_QC bS D ws ad sz v ph2) c2 n2 (va_A ws sz) := by
  obtain ⟨t1, t2, t3⟩ := pm_tck_use ht
  obtain ⟨-, hpl, -⟩ := t3 hps
  refine Met.ofW (cc := pm_by T) (maxL := pm_ml T) (ret := pm_re T) hpl rfl ?_
  intro p e s m args below meth c s₁ B hml hv
  obtain ⟨rfl, hsz, hP, hK, hD0, hN, hw⟩ := hv
  have hts := atoms_spec (ws := pm_wd T) B.pre
  have hown : s.vm.findClass (pm_nm T).cls = some m.cls := findClass_of_methodNamed B.named
  have hnm : meth.name = (pm_nm T).name := (name_of_methodNamed B.named B.method).1
  subst hsz
  have hD := hD0.self (sz := s.heap.size)
  have hl := lv_entry asA (n := pm_ml T) (by rw [pm_lg_len, pm_rs_sum has]; exact hsum)
  rw [lg_entry_eq]
  generalize (lg_sl asA ++ List.replicate (pm_ml T - (lg_sl asA).length) Slot.unset).toArray = ls at hl ⊢
  have hlocks := B.notSynchronized
  refine hf bS none d T 0 (lv_args 0 as) [] ph 0 0 v ph2 c2 n2 h hg D p e _ s m _ below meth c s.heap [] _ (va_A ws s.heap.size) s.heap ws ad ls (lv_args 0 asA) [] ⟨B.exec, B.bytes, hml, by rw [t1]; exact hown, fun q => by rw [hnm]; exact t2 q, fun w hw => hts w (List.mem_cons_of_mem _ hw), hN, hK⟩ (Nat.le_refl _) (Nat.le_refl _) (Nat.le_refl _) (Nat.le_refl _) hP hD va_S.rf (fun q h => Or.inr h) hw hl (pm_rl_args 0 has) trivial (fun x q => by cases q) ?_
  intro H1 locs1 ws1 ad2 ls1 pc1 i1 st1 stA1 hret hdec hst hw1 hP1 hD1 hS1
  cases i1
  case return_ =>
    replace hret : pm_rvd T st1 = some v := hret
    unfold pm_rvd at hret
    split at hret
    · rename_i hre
      cases hret
      obtain rfl := pm_rs_nil hst
      exact W.vret B.exec B.bytes (B.returns.trans hre) (fun t ht hW => ⟨⟨none, ad2, ws1, rfl, trivial, hw1.moved hW.alike, by rw [ht]; exact hP1, hD1⟩, hS1.F ht⟩) hS1.2.2 hdec
    · cases hret
  case ireturn =>
    replace hret : pm_rin T st1 = some v := hret
    unfold pm_rin at hret
    split at hret
    · rename_i x ty hre
      split at hret
      · rename_i hfit
        cases hret
        obtain ⟨r1, rfl, hr1⟩ := pm_rs_i hst
        obtain rfl := pm_rs_nil hr1
        exact W.zret B.exec B.bytes (B.returns.trans hre) (pm_fit_ok (bS := bS) (ad := ad) hfit rfl).1 (fun t ht hW => ⟨⟨some (.int x), ad2, ws1, rfl, rfl, hw1.moved hW.alike, by rw [ht]; exact hP1, hD1⟩, hS1.F ht⟩) hS1.2.2 hdec
      · cases hret
    · cases hret
  case areturn =>
    replace hret : pm_rar T st1 = some v := hret
    unfold pm_rar at hret
    split at hret
    · rename_i a cN hre
      cases hret
      obtain ⟨a', r1, ha, rfl, hr1⟩ := pm_rs_r hst
      obtain rfl := pm_rs_nil hr1
      exact W.aret B.exec B.bytes (B.returns.trans hre) (Or.inl ⟨_, rfl⟩) (Or.inr ⟨_, rfl⟩) (fun t ht hW => ⟨⟨some (.ref a'), ad2, ws1, rfl, ⟨a', ha, rfl⟩, hw1.moved hW.alike, by rw [ht]; exact hP1, hD1⟩, hS1.F ht⟩) hS1.2.2 hdec
    · rename_i cN hre
      cases hret
      obtain ⟨r1, rfl, hr1⟩ := pm_rs_n hst
      obtain rfl := pm_rs_nil hr1
      exact W.aret B.exec B.bytes (B.returns.trans hre) (Or.inl ⟨_, rfl⟩) (Or.inl rfl) (fun t ht hW => ⟨⟨some .null, ad2, ws1, rfl, rfl, hw1.moved hW.alike, by rw [ht]; exact hP1, hD1⟩, hS1.F ht⟩) hS1.2.2 hdec
    · cases hret
  all_goals exact nomatch (show (none : Option (Option Value)) = some v from hret)
end
section
/-! THE PURE MACHINE, 7: it is sound -/
theorem pm_PC_blind {bS : Nat} {D : va_G} {ws : va_W} {ad : List Nat} {ph : List va_E} {sz : Nat} {asA : List Value} : FrameBlind (va_Pc asA (pm_PC bS D ws ad ph sz)) := fun a U g mk q => by
  obtain ⟨q0, q1, qP, qK, qD, qN, qw⟩ := q
  exact ⟨q0, q1, qP, va_K.moved (u := U) (U := U.calling g mk a) (Vm.Alike.refl U.vm) qK, qD, pm_Nn.same (u := U) (U := U.calling g mk a) rfl qN, pm_rw.moved (u := U) (U := U.calling g mk a) (Vm.Alike.refl U.vm) qw⟩
theorem pm_PC_pre {bS : Nat} {D : va_G} {ws : va_W} {ad : List Nat} {ph : List va_E} {asA : List Value} {s : State} {H : Heap} {A : Nat → Prop} (hP : va_P D pm_cl ws H) (hK : va_K D pm_cl [] s) (hD : va_D A ws) (hN : pm_Nn s) (hw : pm_rw bS ad s ph ws) : ∀ U : State, U.heap = H → s.WarmedH U.vm → va_Pc asA (pm_PC bS D ws ad ph H.size) asA.toArray U :=
  fun U hU hW => ⟨rfl, by rw [hU], by rw [hU]; exact hP, va_K.moved hW.alike hK, hD.weaken (fun _ _ _ _ => trivial), pm_Nn.warm hW hN, hw.moved hW.alike⟩
theorem pm_goodIn {T : pm_M} (h : Cond.code (pm_nm T) (pm_by T) (pm_ml T) (pm_re T) ∈ pm_tb) : GoodIn pm_tb (pm_wd T) := by
  intro w hw
  rcases List.mem_cons.mp hw with rfl | hw
  · exact ⟨h, Or.inl rfl⟩
  · exact ⟨hw, good_of_word (List.mem_filter.mp hw).2⟩
theorem pm_nfw : nativeFrameWords "java/lang/System" "arraycopy" 5 = 7 := by decide +kernel
section PMSND
variable {p : Program} {l : Launch} {e : Env} {R : Room} {s : State} {m : MethodId} {args : Array Value} {below : List Frame} {meth : Method} {c : Code} {H : Heap} {locs : List Loc} {cells slots : Nat} {Q : State → Prop}
variable {cc : ByteArray} {pc nL : Nat} {ls : Array Slot} {bS : Nat} {ad : List Nat} {D : va_G} {A : Nat → Prop} {H0 : Heap} {ws : va_W} {ph : List va_E} {T : pm_M}
theorem pm_callk {mc ms : Nat} {st0 rest : List Value} {v : Option Value} {ph2 : List va_E} {a : Array Value} (hr : va_Run p l e R s m args below meth c H locs cells slots mc ms (F0 m pc ls st0) rest (pm_QC bS D ws ad H.size v ph2 a) (va_A ws H.size)) (hS : va_S A H0 H locs) (hA : ∀ q, va_A ws H.size q → A q)
    (kk : ∀ (vA : Option Value) (ad2 : List Nat) (ws2 : va_W) (H1 : Heap) (locs1 : List Loc), pm_rov bS (ad ++ ad2) v vA → pm_rw bS (ad ++ ad2) s ph2 ws2 → va_P D pm_cl ws2 H1 → va_D A ws2 → va_S A H0 H1 locs1 → W p l e R s m args below meth c H1 locs1 (cells + mc) (slots + ms) Q (F0 m (pc + 3) ls (vA.toList ++ rest))) : W p l e R s m args below meth c H locs cells slots Q (F0 m pc ls st0) := by
  intro T hT X
  obtain ⟨v', st₀, t, T', L, h0, X', hL, e1, e2, ⟨⟨vA, ad2, ws2, hv, h1, h2, h3, h4⟩, hz, hk⟩, st⟩ := hr T hT X
  cases hv
  rw [h0] at hz hk
  have hal : s.vm.Alike t.vm := by rw [← e2]; exact X'.warmed.alike
  obtain ⟨t2, a1, b1⟩ := kk v' ad2 ws2 T'.heap (locs ++ L) h1 (h2.moved hal.symm) (by rw [e1]; exact h3) (h4.weaken (fun _ _ _ z => hA _ z))
    ⟨Nat.le_trans hS.1 (by rw [e1]; exact hz), fun q h1 h2 => by rw [e1, hk q (Nat.lt_of_lt_of_le h1 hS.1) (fun z => h2 (hA q z))]; exact hS.2.1 q h1 h2, fun q hq => by
      rcases List.mem_append.mp hq with h | h
      · exact hS.2.2 q h
      · exact hA _ (hL q h)⟩ T' rfl X'
  exact ⟨t2, st t2 a1, b1⟩
theorem pm_nat_ok (hx : p.tables.exec = Jvm.exec) (hb : c.code = cc) (hml : c.maxLocals = ls.size) (hown : s.vm.findClass (pm_ow (pm_cn T)) = some m.cls) (hts : ∀ w ∈ pm_tb, w.before args s = true) (hfr : 1 ≤ R.frames) (hlo : 40 ≤ R.locals) (hce : cells ≤ R.cells) (hsl : slots ≤ R.slots)
    {i : Instr} {st st2 stA : List Value} (h : pm_nat T i st = some st2) (hd : decode cc pc = .ok (i, pm_len i)) (hs : pm_rs bS ad st stA)
    (kk : ∀ stA2 : List Value, pm_rs bS ad st2 stA2 → W p l e R s m args below meth c H locs cells slots Q (F0 m (pc + pm_len i) ls stA2)) : W p l e R s m args below meth c H locs cells slots Q (F0 m pc ls stA) := by
  cases i
  case invokestatic idx =>
    obtain ⟨⟨k, M, p1, p2, p3⟩, h1, h⟩ := Option.bind_eq_some_iff.mp h
    have hck := pm_mr_ok h1
    dsimp only at h
    unfold pm_mx at h
    split at h
    · rename_i y x r
      obtain ⟨r0, rfl, h0⟩ := pm_rs_i hs
      obtain ⟨r1, rfl, hr1⟩ := pm_rs_i h0
      split at h
      · rename_i hsum
        have hs1 : (r1.map fun v => v.category).sum ≤ 8 := by
          have := pm_rs_sum hr1
          unfold pm_sum at this hsum
          omega
        split at h
        · rename_i hk
          cases h
          subst hk
          replace hck : (pm_at p1 (.methodLink (pm_ow (pm_cn T)) idx Lib.Math.max.name) && pm_at p2 (.static Lib.Math.max.name) && pm_at p3 (.code Lib.Math.max.name Lib.Math.max.code 2 (some .int))) = true := hck
          simp only [Bool.and_eq_true] at hck
          exact va_mmax hx hb hml hown (hts _ (pm_at_good hck.1.1 rfl)) (hts _ (pm_at_good hck.1.2 rfl)) (hts _ (pm_at_good pm_ini_ok.1 rfl)) (hts _ (pm_at_good hck.2 rfl)) hfr (by omega) hce hsl hd (kk _ ⟨rfl, hr1⟩)
        · split at h
          · rename_i hk
            cases h
            subst hk
            replace hck : (pm_at p1 (.methodLink (pm_ow (pm_cn T)) idx Lib.Math.min.name) && pm_at p2 (.static Lib.Math.min.name) && pm_at p3 (.code Lib.Math.min.name Lib.Math.min.code 2 (some .int))) = true := hck
            simp only [Bool.and_eq_true] at hck
            exact va_mmin hx hb hml hown (hts _ (pm_at_good hck.1.1 rfl)) (hts _ (pm_at_good hck.1.2 rfl)) (hts _ (pm_at_good pm_ini_ok.1 rfl)) (hts _ (pm_at_good hck.2 rfl)) hfr (by omega) hce hsl hd (kk _ ⟨rfl, hr1⟩)
          · cases h
      · cases h
    · cases h
  case invokespecial idx =>
    obtain ⟨⟨k, M, p1, p2, p3⟩, h1, h⟩ := Option.bind_eq_some_iff.mp h
    have hck := pm_mr_ok h1
    dsimp only at h
    unfold pm_oi at h
    split at h
    · rename_i a r
      obtain ⟨a', r0, ha, rfl, h0⟩ := pm_rs_r hs
      split at h
      · rename_i hk
        obtain ⟨rfl, hsum⟩ := hk
        cases h
        have hs1 : (r0.map fun v => v.category).sum ≤ 8 := by
          have := pm_rs_sum h0
          unfold pm_sum at this hsum
          omega
        replace hck : (pm_at p1 (.methodLink (pm_ow (pm_cn T)) idx Lib.objectInit) && pm_at p2 (.instanceMethod Lib.objectInit) && pm_at p3 (.code Lib.objectInit ⟨#[0xb1]⟩ 1 none)) = true := hck
        simp only [Bool.and_eq_true] at hck
        exact W.objInit hx hb hown (hts _ (pm_at_good hck.1.1 rfl)) (hts _ (pm_at_good hck.1.2 rfl)) (hts _ (pm_at_good hck.2 rfl)) (g := F0 m pc ls (.ref a' :: r0)) rfl hml.symm rfl hd hfr (by show 2 * 0 + _ + 12 ≤ _; omega) (W.eq (g2 := F0 m (pc + 3) ls r0) rfl (kk _ h0))
      · cases h
    · cases h
  all_goals exact nomatch (show (none : Option (List Value)) = some st2 from h)
theorem pm_cpw_ok (hx : p.tables.exec = Jvm.exec) (hb : c.code = cc) (hml : c.maxLocals = ls.size) (hown : s.vm.findClass (pm_ow (pm_cn T)) = some m.cls) (hts : ∀ w ∈ pm_tb, w.before args s = true) (hfr : 1 ≤ R.frames) (hlo : 40 ≤ R.locals) (hK : va_K D pm_cl [] s) (hP : va_P D pm_cl ws H) (hD : va_D A ws) (hS : va_S A H0 H locs) (hw : pm_rw bS ad s ph ws)
    {i : Instr} {st st2 stA : List Value} {k2 : Nat} {e2 : va_E} (h : pm_cpw T i st ph = some (st2, k2, e2)) (hd : decode cc pc = .ok (i, pm_len i)) (hs : pm_rs bS ad st stA)
    (kk : ∀ (H1 : Heap) (locs1 : List Loc) (ws1 : va_W) (stA2 : List Value), va_P D pm_cl ws1 H1 → va_D A ws1 → va_S A H0 H1 locs1 → pm_rw bS ad s (ph.set k2 e2) ws1 → pm_rs bS ad st2 stA2 → W p l e R s m args below meth c H1 locs1 cells slots Q (F0 m (pc + pm_len i) ls stA2)) : W p l e R s m args below meth c H locs cells slots Q (F0 m pc ls stA) := by
  cases i
  case invokestatic idx =>
    obtain ⟨⟨k, M, p1, p2, p3⟩, h1, h⟩ := Option.bind_eq_some_iff.mp h
    have hck := pm_mr_ok h1
    dsimp only at h
    unfold pm_cp5 at h
    split at h
    · rename_i n dp a sp b r hq9
      obtain ⟨⟨n0, f0⟩, h2, h8⟩ := Option.bind_eq_some_iff.mp h
      obtain ⟨⟨n1, f1⟩, h3, h9⟩ := Option.bind_eq_some_iff.mp h8
      clear h h8
      dsimp only at h9
      split at h9
      · rename_i hc
        obtain ⟨hk7, c1, c2, c3, c4, c5, hsum⟩ := hc
        cases h9
        subst hk7
        obtain ⟨r0, rfl, s0⟩ := pm_rs_i hs
        obtain ⟨r1, rfl, s1⟩ := pm_rs_i s0
        obtain ⟨a', r2, ha, rfl, s2⟩ := pm_rs_r s1
        obtain ⟨r3, rfl, s3⟩ := pm_rs_i s2
        obtain ⟨b', r4, hb4, rfl, s4⟩ := pm_rs_r s3
        have hs1 : (r4.map fun v => v.category).sum ≤ 8 := by
          have := pm_rs_sum s4
          unfold pm_sum at this hsum
          omega
        obtain ⟨e1', he1, hc1⟩ := hw.at (pm_ia_ok h2) hb4
        obtain ⟨cB, rfl, qb1, qb2⟩ := hc1
        obtain ⟨e2', he2, hc2⟩ := hw.at (pm_ia_ok h3) ha
        obtain ⟨cA, rfl, qa1, qa2⟩ := hc2
        replace hck : (pm_at p1 (.methodLink (pm_ow (pm_cn T)) idx arraycopyName) && pm_at p2 (.static arraycopyName) && pm_at p3 (.native arraycopyName)) = true := hck
        simp only [Bool.and_eq_true] at hck
        exact va_copyi (ty := .int) hx hb hml hown (hts _ (pm_at_good hck.1.1 rfl)) (hts _ (pm_at_good hck.2 rfl)) (hts _ (pm_at_good hck.1.2 rfl)) (hts _ (pm_at_good pm_ini_ok.2.1 rfl)) (pm_K2 hK qb1 qb2 qa1 qa2) hP hD hS b k2 0 1 he1 he2 rfl rfl rfl c1 c2 c3 c4 c5 (fun _ _ => rfl) hfr (by rw [pm_nfw]; omega) hd (fun H1 locs1 hP1 hD1 hS1 => kk H1 locs1 _ _ hP1 hD1 hS1 (hw.set he2 ⟨cA, rfl, qa1, qa2⟩) s4)
      · cases h9
    · cases h
  all_goals exact nomatch (show (none : Option (List Value × Nat × va_E)) = some (st2, k2, e2) from h)
end PMSND
end
section
/-! THE PURE MACHINE, 8: soundness by induction on the steps -/
theorem pm_rov_list {bS : Nat} {ad : List Nat} {v w : Option Value} (h : pm_rov bS ad v w) : pm_rs bS ad v.toList w.toList := by
  cases v with
  | none => cases w with
    | none => trivial
    | some w => exact h.elim
  | some v => cases w with
    | none => exact h.elim
    | some w => exact ⟨h, trivial⟩
theorem pm_snd (l : Launch) : ∀ f, pm_Snd l f
  | 0 => by
    intro bS scr d T pc lv st ph nc ns v ph2 nc2 ns2 h
    cases h
  | f + 1 => by
    have ih := pm_snd l f
    intro bS scr d T pc lv st ph nc ns v ph2 nc2 ns2 h hg D p e R s m args below meth c H locs Q A H0 ws ad ls lvA stA C hfr hlo hce hsl hP hD hS hA hw hl hv hs hX hret
    obtain ⟨hx, hb, hml, hown, hini, hts, hN, hK⟩ := id C
    unfold pm_run at h
    split at h
    · cases h
    rename_i w hw0
    have hmem := List.all_eq_true.mp hg _ (pm_as_mem hw0)
    simp only [Bool.and_eq_true, Bool.or_eq_true, decide_eq_true_eq] at hmem
    obtain ⟨hdec, hlen⟩ := hmem
    obtain ⟨i, len⟩ := w
    dsimp only at hdec hlen h
    have hd : pm_isw i = false → decode (pm_by T) pc = .ok (i, pm_len i) := fun q => by
      rcases hlen with z | z
      · rw [q] at z; cases z
      · rw [← z]; exact hdec
    have hnone : ∀ {P : Prop}, (pm_isw i = true → P) → (pm_isw i = false → P) → P := fun h1 h2 => by
      cases hq : pm_isw i with
      | true => exact h1 hq
      | false => exact h2 hq
    split at h
    · rename_i x hsim
      obtain ⟨lv2, st2⟩ := x
      refine hnone (fun q => by rw [(pm_isw_none q (pm_ml T) lv st T scr ph).1] at hsim; cases hsim) (fun q => ?_)
      exact pm_sim_ok hx hb hsim (hd q) hl hv hs (fun ls2 lvA2 stA2 h1 h2 h3 => ih _ _ _ _ _ _ _ _ _ _ _ _ _ _ h hg D p e R s m args below meth c H locs Q A H0 ws ad ls2 lvA2 stA2 C hfr hlo hce hsl hP hD hS hA hw h1 h2 h3 hX hret)
    split at h
    · rename_i x hjmp
      obtain ⟨pc2, st2⟩ := x
      exact pm_jmp_ok hx hb hjmp hdec hlen hs (fun stA2 h3 => ih _ _ _ _ _ _ _ _ _ _ _ _ _ _ h hg D p e R s m args below meth c H locs Q A H0 ws ad ls lvA stA2 C hfr hlo hce hsl hP hD hS hA hw hl hv h3 hX hret)
    split at h
    · rename_i x hrd
      refine hnone (fun q => by rw [(pm_isw_none q (pm_ml T) lv st T scr ph).2.1] at hrd; cases hrd) (fun q => ?_)
      exact pm_rd_ok hx hb hown hts hN hK hP hS hw hX hrd (hd q) hs (fun stA2 h3 => ih _ _ _ _ _ _ _ _ _ _ _ _ _ _ h hg D p e R s m args below meth c H locs Q A H0 ws ad ls lvA stA2 C hfr hlo hce hsl hP hD hS hA hw hl hv h3 hX hret)
    split at h
    · rename_i x hwr
      obtain ⟨st2, k2, e2⟩ := x
      refine hnone (fun q => by rw [(pm_isw_none q (pm_ml T) lv st T scr ph).2.2.1] at hwr; cases hwr) (fun q => ?_)
      exact pm_wr_ok hx hb hown hini hts hN hK hP hD hS hw hwr (hd q) hs (fun H1 locs1 ws1 stA2 hP1 hD1 hS1 hw1 hs1 => ih _ _ _ _ _ _ _ _ _ _ _ _ _ _ h hg D p e R s m args below meth c H1 locs1 Q A H0 ws1 ad ls lvA stA2 C hfr hlo hce hsl hP1 hD1 hS1 hA hw1 hl hv hs1 hX hret)
    split at h
    · rename_i x hnw
      obtain ⟨st2, e2, n2⟩ := x
      refine hnone (fun q => by rw [(pm_isw_none q (pm_ml T) lv st T scr ph).2.2.2.1] at hnw; cases hnw) (fun q => ?_)
      have hmono := pm_run_mono f h
      dsimp only at hmono
      exact pm_nw_ok hx hb hown hts hN hK hP hD hS hA hw hnw (hd q) hs (by omega) (by omega) (fun q H1 ws1 stA2 hP1 hD1 hS1 hw1 hs1 => ih _ _ _ _ _ _ _ _ _ _ _ _ _ _ h hg D p e R s m args below meth c H1 locs Q A H0 ws1 (ad ++ [q]) ls lvA stA2 C hfr hlo hce hsl hP1 hD1 hS1 hA hw1 hl hv.mono hs1 hX (fun H2 locs2 ws2 ad2 ls2 pc2 i2 st2 stA2 a1 a2 a3 a4 a5 a6 a7 => hret H2 locs2 ws2 ([q] ++ ad2) ls2 pc2 i2 st2 stA2 a1 a2 (by rw [← List.append_assoc]; exact a3) (by rw [← List.append_assoc]; exact a4) a5 a6 a7))
    split at h
    · rename_i x hnt
      refine hnone (fun q => by rw [(pm_isw_none q (pm_ml T) lv st T scr ph).2.2.2.2.1] at hnt; cases hnt) (fun q => ?_)
      have hmono := pm_run_mono f h
      exact pm_nat_ok hx hb (hml.trans hl.1.symm) hown hts (by omega) (by omega) (by omega) (by omega) hnt (hd q) hs (fun stA2 h3 => ih _ _ _ _ _ _ _ _ _ _ _ _ _ _ h hg D p e R s m args below meth c H locs Q A H0 ws ad ls lvA stA2 C hfr hlo hce hsl hP hD hS hA hw hl hv h3 hX hret)
    split at h
    · rename_i x hcp
      obtain ⟨st2, k2, e2⟩ := x
      refine hnone (fun q => by rw [(pm_isw_none q (pm_ml T) lv st T scr ph).2.2.2.2.2.1] at hcp; cases hcp) (fun q => ?_)
      exact pm_cpw_ok hx hb (hml.trans hl.1.symm) hown hts (by omega) (by omega) hK hP hD hS hw hcp (hd q) hs (fun H1 locs1 ws1 stA2 hP1 hD1 hS1 hw1 hs1 => ih _ _ _ _ _ _ _ _ _ _ _ _ _ _ h hg D p e R s m args below meth c H1 locs1 Q A H0 ws1 ad ls lvA stA2 C hfr hlo hce hsl hP1 hD1 hS1 hA hw1 hl hv hs1 hX hret)
    split at h
    · rename_i v9 hrt
      refine hnone (fun q => by rw [(pm_isw_none q (pm_ml T) lv st T scr ph).2.2.2.2.2.2.1] at hrt; cases hrt) (fun q => ?_)
      cases h
      exact hret H locs ws [] ls pc i st stA hrt (hd q) (by rw [List.append_nil]; exact hs) (by rw [List.append_nil]; exact hw) hP hD hS
    cases d with
    | zero => cases h
    | succ d2 =>
      dsimp only at h
      split at h
      · cases h
      rename_i x hcal
      obtain ⟨T2, as, rest⟩ := x
      split at h
      · cases h
      rename_i y hrun
      obtain ⟨v2, ph3, c2, n2⟩ := y
      dsimp only at h hrun
      have hmono := pm_run_mono f h
      have hAf : ∀ q, va_A ws H.size q → A q := fun q z => z.elim (fun ⟨k, e9, h9⟩ => hD.2 k _ h9) (fun z => hA q (Nat.le_trans hS.1 z))
      have cont : ∀ (vA : Option Value) (ad2 : List Nat) (ws2 : va_W) (H1 : Heap) (locs1 : List Loc), pm_rov bS (ad ++ ad2) v2 vA → pm_rw bS (ad ++ ad2) s ph3 ws2 → va_P D pm_cl ws2 H1 → va_D A ws2 → va_S A H0 H1 locs1 → ∀ restA : List Value, pm_rs bS ad rest restA → W p l e R s m args below meth c H1 locs1 (nc + c2) (ns + n2) Q (F0 m (pc + pm_len i) ls (vA.toList ++ restA)) :=
        fun vA ad2 ws2 H1 locs1 a1 a2 a3 a4 a5 restA a6 => ih _ _ _ _ _ _ _ _ _ _ _ _ _ _ h hg D p e R s m args below meth c H1 locs1 Q A H0 ws2 (ad ++ ad2) ls lvA (vA.toList ++ restA) C hfr hlo hce hsl a3 a4 a5 hA a2 hl hv.mono (pm_rs_app (pm_rov_list a1) a6.mono) hX (fun H2 locs2 ws3 ad3 ls2 pc2 i2 st2 stA2 b1 b2 b3 b4 b5 b6 b7 => hret H2 locs2 ws3 (ad2 ++ ad3) ls2 pc2 i2 st2 stA2 b1 b2 (by rw [← List.append_assoc]; exact b3) (by rw [← List.append_assoc]; exact b4) b5 b6 b7)
      cases i
      case invokevirtual idx =>
        obtain ⟨⟨k, M, p1, p2, p3⟩, m1, hcal⟩ := Option.bind_eq_some_iff.mp hcal
        obtain ⟨T3, m2, hcal⟩ := Option.bind_eq_some_iff.mp hcal
        obtain ⟨⟨b, rs⟩, m3, hcal⟩ := Option.bind_eq_some_iff.mp hcal
        obtain ⟨fs, m4, hcal⟩ := Option.bind_eq_some_iff.mp hcal
        dsimp only at hcal m2 m4
        split at hcal
        · rename_i hc
          cases hcal
          obtain ⟨rfl, hsum, hsum2, hlen2, hps⟩ := hc
          have hT2 : T2 ∈ pm_tab := List.mem_of_getElem? m2
          have hdk := List.all_eq_true.mp pm_tab_gd _ hT2
          have htk := List.all_eq_true.mp pm_tab_gt _ hT2
          obtain ⟨-, -, t3⟩ := pm_tck_use htk
          have u1 := pm_tab_gk _ hT2 hps
          obtain ⟨u2, -, u4, u5, u6, u7⟩ := t3 hps
          have hck := pm_mr_ok m1
          unfold pm_mck at hck
          dsimp only at hck
          rw [m2] at hck
          dsimp only at hck
          simp only [Bool.and_eq_true, decide_eq_true_eq] at hck
          obtain ⟨⟨⟨c1, c3⟩, c4⟩, c5⟩ := hck
          have hst : st = st.take (pm_na T2) ++ (.ref b :: rest) := by rw [← pm_r1_ok m3]; exact (List.take_append_drop _ _).symm
          rw [hst] at hs
          obtain ⟨aA, bA, rfl, hsa, hsb⟩ := pm_rs_split hs
          obtain ⟨b', restA, hb', rfl, hrest⟩ := pm_rs_r hsb
          have has : pm_rs bS ad (.ref b :: (st.take (pm_na T2)).reverse) (.ref b' :: aA.reverse) := ⟨⟨b', hb', rfl⟩, pm_rs_rev hsa⟩
          have hM := pm_met ih hrun hdk htk hps hsum2 (D := D) (ws := ws) (ad := ad) (sz := H.size) has
          obtain ⟨e', he, hc9⟩ := hw.at (pm_ob_ok m4) hb'
          obtain ⟨fs', rfl, -⟩ := hc9
          obtain ⟨r9, hr9, -⟩ := hP b _ he
          have hcls : r9.1 = (pm_nm T2).cls := by
            rw [← c5, List.getD_eq_getElem?_getD, hr9]
            rfl
          have hrecv := va_recv hK hP hr9 he
          rw [hcls] at hrecv
          have hsumA : (restA.map fun v => v.category).sum ≤ 8 := by
            have := pm_rs_sum hrest
            unfold pm_sum at this hsum
            omega
          exact pm_callk (va_runV (As := aA.reverse) (rest := restA) (C := (pm_nm T2).cls) (b := b') (Ts := pm_tb) (own := pm_ow (pm_cn T)) ⟨hx, hb, hml, hown, hts⟩ hM ⟨callB_of (pm_na T2) hts (pm_goodIn u1) rfl rfl rfl (hts _ u2) (hts _ (pm_at_good c1 rfl)) ⟨u4, u5, u6⟩ ⟨hfr, by show 8 + (pm_ml T2 + 11) + 40 * (d2 + 1) ≤ _; omega⟩, hts _ (pm_at_good c3 rfl), hts _ (pm_at_good c4 rfl)⟩ ⟨pm_PC_blind, hrecv, pm_PC_pre hP hK hD hN hw⟩ rfl (by rw [List.length_reverse, pm_rs_len hsa]; exact hlen2) hl.1 (by rw [List.reverse_reverse]) (lv_room hsumA) (hd rfl) ⟨by omega, by omega⟩) hS hAf (fun vA ad2 ws2 H1 locs1 a1 a2 a3 a4 a5 => cont vA ad2 ws2 H1 locs1 a1 a2 a3 a4 a5 restA hrest)
        · cases hcal
      case invokespecial idx =>
        obtain ⟨⟨k, M, p1, p2, p3⟩, m1, hcal⟩ := Option.bind_eq_some_iff.mp hcal
        obtain ⟨T3, m2, hcal⟩ := Option.bind_eq_some_iff.mp hcal
        obtain ⟨⟨b, rs⟩, m3, hcal⟩ := Option.bind_eq_some_iff.mp hcal
        dsimp only at hcal m2
        split at hcal
        · rename_i hc
          cases hcal
          obtain ⟨hk, hsum, hsum2, hlen2, hps⟩ := hc
          have hT2 : T2 ∈ pm_tab := List.mem_of_getElem? m2
          have hdk := List.all_eq_true.mp pm_tab_gd _ hT2
          have htk := List.all_eq_true.mp pm_tab_gt _ hT2
          obtain ⟨-, -, t3⟩ := pm_tck_use htk
          have u1 := pm_tab_gk _ hT2 hps
          obtain ⟨u2, -, u4, u5, u6, u7⟩ := t3 hps
          have hck := pm_mr_ok m1
          have hst : st = st.take (pm_na T2) ++ (.ref b :: rest) := by rw [← pm_r1_ok m3]; exact (List.take_append_drop _ _).symm
          rw [hst] at hs
          obtain ⟨aA, bA, rfl, hsa, hsb⟩ := pm_rs_split hs
          obtain ⟨b', restA, hb', rfl, hrest⟩ := pm_rs_r hsb
          have has : pm_rs bS ad (.ref b :: (st.take (pm_na T2)).reverse) (.ref b' :: aA.reverse) := ⟨⟨b', hb', rfl⟩, pm_rs_rev hsa⟩
          have hM := pm_met ih hrun hdk htk hps hsum2 (D := D) (ws := ws) (ad := ad) (sz := H.size) has
          have hsumA : (restA.map fun v => v.category).sum ≤ 8 := by
            have := pm_rs_sum hrest
            unfold pm_sum at this hsum
            omega
          rcases hk with rfl | rfl
          · unfold pm_mck at hck
            dsimp only at hck
            rw [m2] at hck
            dsimp only at hck
            simp only [Bool.and_eq_true, decide_eq_true_eq] at hck
            obtain ⟨⟨⟨c1, c3⟩, c4⟩, c5⟩ := hck
            exact pm_callk (va_runI (As := aA.reverse) (rest := restA) (b := b') (Ts := pm_tb) (own := pm_ow (pm_cn T)) ⟨hx, hb, hml, hown, hts⟩ hM ⟨callB_of (ws' := pm_tb) (pm_na T2) hts (pm_goodIn u1) (by rw [← c5]; rfl) rfl rfl (hts _ u2) (hts _ (pm_at_good c1 rfl)) ⟨u4, u5, u6⟩ ⟨hfr, by show 8 + (pm_ml T2 + 11) + 40 * (d2 + 1) ≤ _; omega⟩, c4, hts _ (pm_at_good c3 rfl)⟩ ⟨pm_PC_blind, pm_PC_pre hP hK hD hN hw⟩ rfl (by rw [List.length_reverse, pm_rs_len hsa]; exact hlen2) hl.1 (by rw [List.reverse_reverse]) (lv_room hsumA) (hd rfl) ⟨by omega, by omega⟩) hS hAf (fun vA ad2 ws2 H1 locs1 a1 a2 a3 a4 a5 => cont vA ad2 ws2 H1 locs1 a1 a2 a3 a4 a5 restA hrest)
          · unfold pm_mck at hck
            dsimp only at hck
            rw [m2] at hck
            dsimp only at hck
            simp only [Bool.and_eq_true, decide_eq_true_eq] at hck
            obtain ⟨⟨⟨c1, c3⟩, c4⟩, c5⟩ := hck
            exact pm_callk (va_runIN (host := "LambdaShelf") (As := aA.reverse) (rest := restA) (b := b') (Ts := pm_tb) (own := pm_ow (pm_cn T)) ⟨hx, hb, hml, hown, hts⟩ hM ⟨va_cnB (ws' := pm_tb) (pm_na T2) hts (pm_goodIn u1) (by rw [← c5]; rfl) rfl rfl (hN.1 _ (pm_at_mem c1) rfl) (hts _ u2) ⟨u4, u5, u6⟩ ⟨hfr, by show 8 + (pm_ml T2 + 11) + 40 * (d2 + 1) ≤ _; omega⟩, c4, hts _ (pm_at_good c3 rfl)⟩ ⟨pm_PC_blind, pm_PC_pre hP hK hD hN hw⟩ rfl (by rw [List.length_reverse, pm_rs_len hsa]; exact hlen2) hl.1 (by rw [List.reverse_reverse]) (lv_room hsumA) (hd rfl) ⟨by omega, by omega⟩) hS hAf (fun vA ad2 ws2 H1 locs1 a1 a2 a3 a4 a5 => cont vA ad2 ws2 H1 locs1 a1 a2 a3 a4 a5 restA hrest)
        · cases hcal
      case invokestatic idx =>
        obtain ⟨⟨k, M, p1, p2, p3⟩, m1, hcal⟩ := Option.bind_eq_some_iff.mp hcal
        obtain ⟨T3, m2, hcal⟩ := Option.bind_eq_some_iff.mp hcal
        dsimp only at hcal m2
        split at hcal
        · rename_i hc
          cases hcal
          obtain ⟨rfl, hsum, hsum2, hlen2, hps⟩ := hc
          have hT2 : T2 ∈ pm_tab := List.mem_of_getElem? m2
          have hdk := List.all_eq_true.mp pm_tab_gd _ hT2
          have htk := List.all_eq_true.mp pm_tab_gt _ hT2
          obtain ⟨-, -, t3⟩ := pm_tck_use htk
          have u1 := pm_tab_gk _ hT2 hps
          obtain ⟨u2, -, u4, u5, u6, u7⟩ := t3 hps
          have hck := pm_mr_ok m1
          unfold pm_mck at hck
          dsimp only at hck
          rw [m2] at hck
          dsimp only at hck
          simp only [Bool.and_eq_true, decide_eq_true_eq] at hck
          obtain ⟨c1, c3⟩ := hck
          have hst : st = st.take (pm_na T2) ++ st.drop (pm_na T2) := (List.take_append_drop _ _).symm
          rw [hst] at hs
          obtain ⟨aA, restA, rfl, hsa, hrest⟩ := pm_rs_split hs
          have has := pm_rs_rev hsa
          have hM := pm_met ih hrun hdk htk hps hsum2 (D := D) (ws := ws) (ad := ad) (sz := H.size) has
          have hsumA : (restA.map fun v => v.category).sum ≤ 8 := by
            have := pm_rs_sum hrest
            unfold pm_sum at this hsum
            omega
          exact pm_callk (va_runS (As := aA.reverse) (rest := restA) (Ts := pm_tb) (own := pm_ow (pm_cn T)) ⟨hx, hb, hml, hown, hts⟩ hM ⟨callB_of (pm_na T2) hts (pm_goodIn u1) rfl rfl rfl (hts _ u2) (hts _ (pm_at_good c1 rfl)) ⟨u4, u5, u6⟩ ⟨hfr, by show 8 + (pm_ml T2 + 11) + 40 * (d2 + 1) ≤ _; omega⟩, hts _ (pm_at_good c3 rfl)⟩ ⟨pm_PC_blind, pm_PC_pre hP hK hD hN hw⟩ rfl (by rw [List.length_reverse, pm_rs_len hsa]; exact hlen2) hl.1 (by rw [List.reverse_reverse]) (lv_room hsumA) (hd rfl) ⟨by omega, by omega⟩) hS hAf (fun vA ad2 ws2 H1 locs1 a1 a2 a3 a4 a5 => cont vA ad2 ws2 H1 locs1 a1 a2 a3 a4 a5 restA hrest)
        · cases hcal
      all_goals exact nomatch (show (none : Option (pm_M × List Value × List Value)) = some (T2, as, rest) from hcal)
end
section
/-! THE PURE MACHINE, 9: what a run comes to, step by step: pm_E S Q: from S the method comes to its end, with Q -/
theorem pm_run_step {f g : Nat} (ih : ∀ {scr : Option (Nat × (Nat → Int32))} {d : Nat} {T : pm_M} {pc : Nat} {lv : pm_L} {st : List Value} {ph : List va_E} {nc ns : Nat} {r : Option Value × List va_E × Nat × Nat}, pm_run f scr d T pc lv st ph nc ns = some r → pm_run g scr d T pc lv st ph nc ns = some r)
    {scr : Option (Nat × (Nat → Int32))} {d : Nat} {T : pm_M} {pc : Nat} {lv : pm_L} {st : List Value} {ph : List va_E} {nc ns : Nat} {r : Option Value × List va_E × Nat × Nat} (h : pm_run (f + 1) scr d T pc lv st ph nc ns = some r) : pm_run (g + 1) scr d T pc lv st ph nc ns = some r := by
  unfold pm_run at h ⊢
  cases hw : pm_as (pm_cd T) pc with
  | none => rw [hw] at h; cases h
  | some w =>
    rw [hw] at h
    dsimp only at h ⊢
    cases h1 : pm_sim (pm_ml T) w.1 lv st with
    | some x => rw [h1] at h; exact ih h
    | none =>
    rw [h1] at h
    dsimp only at h ⊢
    cases h2 : pm_jmp w.1 pc st with
    | some x => rw [h2] at h; exact ih h
    | none =>
    rw [h2] at h
    dsimp only at h ⊢
    cases h3 : pm_rd T scr w.1 st ph with
    | some x => rw [h3] at h; exact ih h
    | none =>
    rw [h3] at h
    dsimp only at h ⊢
    cases h4 : pm_wr T w.1 st ph with
    | some x => rw [h4] at h; exact ih h
    | none =>
    rw [h4] at h
    dsimp only at h ⊢
    cases h5 : pm_nw T w.1 st with
    | some x => rw [h5] at h; exact ih h
    | none =>
    rw [h5] at h
    dsimp only at h ⊢
    cases h6 : pm_nat T w.1 st with
    | some x => rw [h6] at h; exact ih h
    | none =>
    rw [h6] at h
    dsimp only at h ⊢
    cases h7 : pm_cpw T w.1 st ph with
    | some x => rw [h7] at h; exact ih h
    | none =>
    rw [h7] at h
    dsimp only at h ⊢
    cases h8 : pm_ret T w.1 st with
    | some x => rw [h8] at h; exact h
    | none =>
    rw [h8] at h
    dsimp only at h ⊢
    cases d with
    | zero => cases h
    | succ d2 =>
    dsimp only at h ⊢
    cases h9 : pm_cal T w.1 st ph with
    | none => rw [h9] at h; cases h
    | some x =>
    rw [h9] at h
    dsimp only at h ⊢
    cases hy : pm_run f none d2 x.1 0 (lv_args 0 x.2.1) [] ph 0 0 with
    | none => rw [hy] at h; cases h
    | some y =>
    rw [hy] at h
    rw [ih hy]
    exact ih h
theorem pm_run_more : ∀ (f : Nat) {scr : Option (Nat × (Nat → Int32))} {d : Nat} {T : pm_M} {pc : Nat} {lv : pm_L} {st : List Value} {ph : List va_E} {nc ns : Nat} {r : Option Value × List va_E × Nat × Nat}, pm_run f scr d T pc lv st ph nc ns = some r → pm_run (f + 1) scr d T pc lv st ph nc ns = some r
  | 0, _, _, _, _, _, _, _, _, _, _, h => by cases h
  | f + 1, _, _, _, _, _, _, _, _, _, _, h => pm_run_step (fun h => pm_run_more f h) h
theorem pm_run_le {f g : Nat} (hg : f ≤ g) {scr : Option (Nat × (Nat → Int32))} {d : Nat} {T : pm_M} {pc : Nat} {lv : pm_L} {st : List Value} {ph : List va_E} {nc ns : Nat} {r : Option Value × List va_E × Nat × Nat} (h : pm_run f scr d T pc lv st ph nc ns = some r) : pm_run g scr d T pc lv st ph nc ns = some r := by
  induction hg with
  | refl => exact h
  | step _ ih => exact pm_run_more _ ih
def pm_E (scr : Option (Nat × (Nat → Int32))) (d : Nat) (T : pm_M) (pc : Nat) (lv : pm_L) (st : List Value) (ph : List va_E) (nc ns : Nat) (Q : Option Value → List va_E → Nat → Nat → Prop) : Prop := ∃ (f : Nat) (v : Option Value) (ph2 : List va_E) (nc2 ns2 : Nat), pm_run f scr d T pc lv st ph nc ns = some (v, ph2, nc2, ns2) ∧ Q v ph2 nc2 ns2
section PMEV
variable {scr : Option (Nat × (Nat → Int32))} {d : Nat} {T : pm_M} {pc : Nat} {lv lv2 : pm_L} {st st2 : List Value} {ph : List va_E} {nc ns : Nat} {Q : Option Value → List va_E → Nat → Nat → Prop} {i : Instr} {len : Nat}
theorem pm_e_sim (h0 : pm_as (pm_cd T) pc = some (i, len)) (h1 : pm_sim (pm_ml T) i lv st = some (lv2, st2)) (k : pm_E scr d T (pc + pm_len i) lv2 st2 ph nc ns Q) : pm_E scr d T pc lv st ph nc ns Q := by
  obtain ⟨f, v, ph2, nc2, ns2, h, hq⟩ := k
  refine ⟨f + 1, v, ph2, nc2, ns2, ?_, hq⟩
  unfold pm_run
  simp only [h0, h1]
  exact h
theorem pm_e_jmp {pc2 : Nat} (h0 : pm_as (pm_cd T) pc = some (i, len)) (h1 : pm_sim (pm_ml T) i lv st = none) (h2 : pm_jmp i pc st = some (pc2, st2)) (k : pm_E scr d T pc2 lv st2 ph nc ns Q) : pm_E scr d T pc lv st ph nc ns Q := by
  obtain ⟨f, v, ph2, nc2, ns2, h, hq⟩ := k
  refine ⟨f + 1, v, ph2, nc2, ns2, ?_, hq⟩
  unfold pm_run
  simp only [h0, h1, h2]
  exact h
theorem pm_e_goto {off : Int} {t : Nat} (h0 : pm_as (pm_cd T) pc = some (.goto off, len)) (ht : pm_tgt pc off = some t) (k : pm_E scr d T t lv st ph nc ns Q) : pm_E scr d T pc lv st ph nc ns Q :=
  pm_e_jmp h0 rfl (by show pm_jto pc off st = _; unfold pm_jto; rw [ht]) k
theorem pm_e_ift {cn : Jvm.ClassFile.Cond} {off : Int} {t : Nat} {x : Int32} (h0 : pm_as (pm_cd T) pc = some (.ifCond cn off, len)) (ht : pm_tgt pc off = some t) (hc : pm_cz cn x 0 = true) (k : pm_E scr d T t lv st ph nc ns Q) : pm_E scr d T pc lv (.int x :: st) ph nc ns Q :=
  pm_e_jmp h0 rfl (by show pm_jc (pm_cz cn x 0) pc off st = _; unfold pm_jc; rw [ht, hc]; rfl) k
theorem pm_e_iff {cn : Jvm.ClassFile.Cond} {off : Int} {t : Nat} {x : Int32} (h0 : pm_as (pm_cd T) pc = some (.ifCond cn off, len)) (ht : pm_tgt pc off = some t) (hc : pm_cz cn x 0 = false) (k : pm_E scr d T (pc + 3) lv st ph nc ns Q) : pm_E scr d T pc lv (.int x :: st) ph nc ns Q :=
  pm_e_jmp h0 rfl (by show pm_jc (pm_cz cn x 0) pc off st = _; unfold pm_jc; rw [ht, hc]; rfl) k
theorem pm_e_if {cn : Jvm.ClassFile.Cond} {off : Int} {t : Nat} {x : Int32} (h0 : pm_as (pm_cd T) pc = some (.ifCond cn off, len)) (ht : pm_tgt pc off = some t) (k1 : pm_cz cn x 0 = true → pm_E scr d T t lv st ph nc ns Q) (k2 : pm_cz cn x 0 = false → pm_E scr d T (pc + 3) lv st ph nc ns Q) : pm_E scr d T pc lv (.int x :: st) ph nc ns Q := by
  cases hc : pm_cz cn x 0 with
  | true => exact pm_e_ift h0 ht hc (k1 hc)
  | false => exact pm_e_iff h0 ht hc (k2 hc)
theorem pm_e_ict {cn : Jvm.ClassFile.Cond} {off : Int} {t : Nat} {x y : Int32} (h0 : pm_as (pm_cd T) pc = some (.if_icmp cn off, len)) (ht : pm_tgt pc off = some t) (hc : pm_cz cn x y = true) (k : pm_E scr d T t lv st ph nc ns Q) : pm_E scr d T pc lv (.int y :: .int x :: st) ph nc ns Q :=
  pm_e_jmp h0 rfl (by show pm_jc (pm_cz cn x y) pc off st = _; unfold pm_jc; rw [ht, hc]; rfl) k
theorem pm_e_icf {cn : Jvm.ClassFile.Cond} {off : Int} {t : Nat} {x y : Int32} (h0 : pm_as (pm_cd T) pc = some (.if_icmp cn off, len)) (ht : pm_tgt pc off = some t) (hc : pm_cz cn x y = false) (k : pm_E scr d T (pc + 3) lv st ph nc ns Q) : pm_E scr d T pc lv (.int y :: .int x :: st) ph nc ns Q :=
  pm_e_jmp h0 rfl (by show pm_jc (pm_cz cn x y) pc off st = _; unfold pm_jc; rw [ht, hc]; rfl) k
theorem pm_e_ic {cn : Jvm.ClassFile.Cond} {off : Int} {t : Nat} {x y : Int32} (h0 : pm_as (pm_cd T) pc = some (.if_icmp cn off, len)) (ht : pm_tgt pc off = some t) (k1 : pm_cz cn x y = true → pm_E scr d T t lv st ph nc ns Q) (k2 : pm_cz cn x y = false → pm_E scr d T (pc + 3) lv st ph nc ns Q) : pm_E scr d T pc lv (.int y :: .int x :: st) ph nc ns Q := by
  cases hc : pm_cz cn x y with
  | true => exact pm_e_ict h0 ht hc (k1 hc)
  | false => exact pm_e_icf h0 ht hc (k2 hc)
theorem pm_e_rd (h0 : pm_as (pm_cd T) pc = some (i, len)) (h1 : pm_sim (pm_ml T) i lv st = none) (h2 : pm_jmp i pc st = none) (h3 : pm_rd T scr i st ph = some st2) (k : pm_E scr d T (pc + pm_len i) lv st2 ph nc ns Q) : pm_E scr d T pc lv st ph nc ns Q := by
  obtain ⟨f, v, ph2, nc2, ns2, h, hq⟩ := k
  refine ⟨f + 1, v, ph2, nc2, ns2, ?_, hq⟩
  unfold pm_run
  simp only [h0, h1, h2, h3]
  exact h
theorem pm_e_wr {k2 : Nat} {e2 : va_E} {ph1 : List va_E} (h0 : pm_as (pm_cd T) pc = some (i, len)) (h1 : pm_sim (pm_ml T) i lv st = none) (h2 : pm_jmp i pc st = none) (h3 : pm_rd T scr i st ph = none) (h4 : pm_wr T i st ph = some (st2, k2, e2)) (h5 : ph.set k2 e2 = ph1) (k : pm_E scr d T (pc + pm_len i) lv st2 ph1 nc ns Q) : pm_E scr d T pc lv st ph nc ns Q := by
  obtain ⟨f, v, ph2, nc2, ns2, h, hq⟩ := k
  refine ⟨f + 1, v, ph2, nc2, ns2, ?_, hq⟩
  unfold pm_run
  simp only [h0, h1, h2, h3, h4, h5]
  exact h
theorem pm_e_nw {e2 : va_E} {n2 : Nat} {ph1 : List va_E} {k2 : Nat} (h0 : pm_as (pm_cd T) pc = some (i, len)) (h1 : pm_sim (pm_ml T) i lv st = none) (h2 : pm_jmp i pc st = none) (h3 : pm_rd T scr i st ph = none) (h4 : pm_wr T i st ph = none) (h5 : pm_nw T i st = some (st2, e2, n2)) (h6 : ph ++ [e2] = ph1) (h7 : ph.length = k2) (k : pm_E scr d T (pc + pm_len i) lv (.ref k2 :: st2) ph1 (nc + 1) (ns + n2) Q) : pm_E scr d T pc lv st ph nc ns Q := by
  obtain ⟨f, v, ph2, nc2, ns2, h, hq⟩ := k
  refine ⟨f + 1, v, ph2, nc2, ns2, ?_, hq⟩
  unfold pm_run
  simp only [h0, h1, h2, h3, h4, h5, h6, h7]
  exact h
theorem pm_e_nat (h0 : pm_as (pm_cd T) pc = some (i, len)) (h1 : pm_sim (pm_ml T) i lv st = none) (h2 : pm_jmp i pc st = none) (h3 : pm_rd T scr i st ph = none) (h4 : pm_wr T i st ph = none) (h5 : pm_nw T i st = none) (h6 : pm_nat T i st = some st2) (k : pm_E scr d T (pc + pm_len i) lv st2 ph nc ns Q) : pm_E scr d T pc lv st ph nc ns Q := by
  obtain ⟨f, v, ph2, nc2, ns2, h, hq⟩ := k
  refine ⟨f + 1, v, ph2, nc2, ns2, ?_, hq⟩
  unfold pm_run
  simp only [h0, h1, h2, h3, h4, h5, h6]
  exact h
theorem pm_e_ret {v : Option Value} (h0 : pm_as (pm_cd T) pc = some (i, len)) (h1 : pm_sim (pm_ml T) i lv st = none) (h2 : pm_jmp i pc st = none) (h3 : pm_rd T scr i st ph = none) (h4 : pm_wr T i st ph = none) (h5 : pm_nw T i st = none) (h6 : pm_nat T i st = none) (h7 : pm_cpw T i st ph = none) (h8 : pm_ret T i st = some v) (k : Q v ph nc ns) : pm_E scr d T pc lv st ph nc ns Q := by
  refine ⟨1, v, ph, nc, ns, ?_, k⟩
  unfold pm_run
  simp only [h0, h1, h2, h3, h4, h5, h6, h7, h8]
theorem pm_e_call {T2 : pm_M} {as rest : List Value} (h0 : pm_as (pm_cd T) pc = some (i, len)) (h1 : pm_sim (pm_ml T) i lv st = none) (h2 : pm_jmp i pc st = none) (h3 : pm_rd T scr i st ph = none) (h4 : pm_wr T i st ph = none) (h5 : pm_nw T i st = none) (h6 : pm_nat T i st = none) (h7 : pm_cpw T i st ph = none) (h8 : pm_ret T i st = none) (h9 : pm_cal T i st ph = some (T2, as, rest))
    (k : pm_E none d T2 0 (lv_args 0 as) [] ph 0 0 (fun v ph2 c n => pm_E scr (d + 1) T (pc + pm_len i) lv (v.toList ++ rest) ph2 (nc + c) (ns + n) Q)) : pm_E scr (d + 1) T pc lv st ph nc ns Q := by
  obtain ⟨f, v, ph2, c2, n2, h, f', v', ph3, c3, n3, h', hq⟩ := k
  refine ⟨f + f' + 1, v', ph3, c3, n3, ?_, hq⟩
  have e1 := pm_run_le (Nat.le_add_right f f') h
  have e2 := pm_run_le (Nat.le_add_left f' f) h'
  unfold pm_run
  simp only [h0, h1, h2, h3, h4, h5, h6, h7, h8, h9, e1]
  exact e2
theorem pm_e_mono {Q2 : Option Value → List va_E → Nat → Nat → Prop} (h : pm_E scr d T pc lv st ph nc ns Q2) (hq : ∀ v ph2 c n, Q2 v ph2 c n → Q v ph2 c n) : pm_E scr d T pc lv st ph nc ns Q := by
  obtain ⟨f, v, ph2, nc2, ns2, h, q⟩ := h
  exact ⟨f, v, ph2, nc2, ns2, h, hq _ _ _ _ q⟩
theorem pm_e_top {x y : Int32} (h : x = y) (k : pm_E scr d T pc lv (.int y :: st) ph nc ns Q) : pm_E scr d T pc lv (.int x :: st) ph nc ns Q := by
  rw [h]
  exact k
theorem pm_e_inc {j : Nat} {n : Int} {x y : Int32} (h0 : pm_as (pm_cd T) pc = some (.iinc j n, len)) (hg : pm_get lv j = some (.int x)) (hv : x + Int32.ofInt n = y) (hk : j < pm_ml T) (hl : pm_set lv j (.int y) = lv2) (k : pm_E scr d T (pc + 3) lv2 st ph nc ns Q) : pm_E scr d T pc lv st ph nc ns Q :=
  pm_e_sim h0 (by show pm_inc (pm_ml T) lv j n st = _; unfold pm_inc; rw [hg]; dsimp only; rw [if_pos hk, hv, hl]) k
theorem pm_e_tsi {x : Int32} {t : Nat} (h0 : pm_as (pm_cd T) pc = some (i, len)) (hsw : pm_isw i = true) (h2 : pm_jmp i pc (.int x :: st) = some (t, st)) (k : pm_E scr d T t lv st ph nc ns Q) : pm_E scr d T pc lv (.int x :: st) ph nc ns Q :=
  pm_e_jmp h0 (pm_isw_none hsw (pm_ml T) lv (.int x :: st) T scr ph).1 h2 k
theorem pm_e_tso {x : Int32} {t : Nat} {dd lo hi : Int} {offs : Array Int} (h0 : pm_as (pm_cd T) pc = some (.tableswitch dd lo hi offs, len)) (hx : x.toInt < lo ∨ hi < x.toInt) (ht : pm_tgt pc dd = some t) (k : pm_E scr d T t lv st ph nc ns Q) : pm_E scr d T pc lv (.int x :: st) ph nc ns Q :=
  pm_e_jmp h0 rfl (by show pm_ts dd lo hi offs pc (.int x :: st) = _; unfold pm_ts; dsimp only; rw [if_pos hx]; unfold pm_jto; rw [ht]) k
theorem pm_e_lko {x : Int32} {t : Nat} {dd off : Int} {ps : Array (Int × Int)} (h0 : pm_as (pm_cd T) pc = some (.lookupswitch dd ps, len)) (hp : (ps.toList.zip (ps.toList.drop 1)).all (fun (a, next) => a.1 < next.1) = true) (ho : Op.lookupswitch.offset ps.toList dd x.toInt = off) (ht : pm_tgt pc off = some t) (k : pm_E scr d T t lv st ph nc ns Q) : pm_E scr d T pc lv (.int x :: st) ph nc ns Q :=
  pm_e_jmp h0 rfl (by show pm_lks dd ps pc (.int x :: st) = _; unfold pm_lks; dsimp only; rw [if_pos hp, ho]; unfold pm_jto; rw [ht]) k
theorem pm_e_sld {L j r : Nat} {xs : Nat → Int32} {x : Int32} (h0 : pm_as (pm_cd T) pc = some (.iaload, len)) (hj : pm_ix x L = some j) (k : pm_E (some (L, xs)) d T (pc + 1) lv (.int (xs j) :: st) ph nc ns Q) : pm_E (some (L, xs)) d T pc lv (.int x :: .retAddr r :: st) ph nc ns Q :=
  pm_e_rd h0 rfl rfl (by show ((pm_ix x L).bind fun j => some (.int (xs j) :: st)) = _; rw [hj]; rfl) k
theorem pm_e_sldc {L j r : Nat} {xs : Nat → Int32} {x y : Int32} (e : xs j = y) (h0 : pm_as (pm_cd T) pc = some (.iaload, len)) (hj : pm_ix x L = some j) (k : pm_E (some (L, xs)) d T (pc + 1) lv (.int y :: st) ph nc ns Q) : pm_E (some (L, xs)) d T pc lv (.int x :: .retAddr r :: st) ph nc ns Q :=
  pm_e_sld h0 hj (by rw [e]; exact k)
end PMEV
theorem pm_z_lt_t {x y : Int32} (K : Int) (hy : y.toInt = K) (h : x.toInt < K) : pm_cz .lt x y = true := pm_cz_lt.mpr (Int32.lt_iff_toInt_lt.mpr (by rw [hy]; exact h))
theorem pm_z_lt_f {x y : Int32} (K : Int) (hy : y.toInt = K) (h : K ≤ x.toInt) : pm_cz .lt x y = false := pm_bf pm_cz_lt (fun q => by have := Int32.lt_iff_toInt_lt.mp q; omega)
theorem pm_z_ge_t {x y : Int32} (K : Int) (hy : y.toInt = K) (h : K ≤ x.toInt) : pm_cz .ge x y = true := pm_cz_ge.mpr (Int32.le_iff_toInt_le.mpr (by rw [hy]; exact h))
theorem pm_z_ge_f {x y : Int32} (K : Int) (hy : y.toInt = K) (h : x.toInt < K) : pm_cz .ge x y = false := pm_bf pm_cz_ge (fun q => by have := Int32.le_iff_toInt_le.mp q; omega)
theorem pm_z_gt_t {x y : Int32} (K : Int) (hy : y.toInt = K) (h : K < x.toInt) : pm_cz .gt x y = true := pm_cz_gt.mpr (Int32.lt_iff_toInt_lt.mpr (by rw [hy]; exact h))
theorem pm_z_gt_f {x y : Int32} (K : Int) (hy : y.toInt = K) (h : x.toInt ≤ K) : pm_cz .gt x y = false := pm_bf pm_cz_gt (fun q => by have := Int32.lt_iff_toInt_lt.mp q; omega)
theorem pm_z_le_t {x y : Int32} (K : Int) (hy : y.toInt = K) (h : x.toInt ≤ K) : pm_cz .le x y = true := pm_cz_le.mpr (Int32.le_iff_toInt_le.mpr (by rw [hy]; exact h))
theorem pm_z_le_f {x y : Int32} (K : Int) (hy : y.toInt = K) (h : K < x.toInt) : pm_cz .le x y = false := pm_bf pm_cz_le (fun q => by have := Int32.le_iff_toInt_le.mp q; omega)
theorem pm_z_eq_t {x y : Int32} (K : Int) (hy : y.toInt = K) (h : x.toInt = K) : pm_cz .eq x y = true := pm_cz_eq.mpr (Int32.toInt_inj.mp (by rw [hy]; exact h))
theorem pm_z_eq_f {x y : Int32} (K : Int) (hy : y.toInt = K) (h : x.toInt ≠ K) : pm_cz .eq x y = false := pm_bf pm_cz_eq (fun q => h (by rw [q]; exact hy))
theorem pm_z_ne_t {x y : Int32} (K : Int) (hy : y.toInt = K) (h : x.toInt ≠ K) : pm_cz .ne x y = true := pm_cz_ne.mpr (fun q => h (by rw [q]; exact hy))
theorem pm_z_ne_f {x y : Int32} (K : Int) (hy : y.toInt = K) (h : x.toInt = K) : pm_cz .ne x y = false := pm_bf pm_cz_ne (fun q => q (Int32.toInt_inj.mp (by rw [hy]; exact h)))
theorem pm_zl_lt {cn : Jvm.ClassFile.Cond} {t : Int32} {c : Int64} (K : Int) {b : Bool} (hc : c.toInt = K) (h : t.toInt < K) (hb : pm_cz cn (-1) 0 = b) : pm_cz cn (lg_cmp t.toInt64 c) 0 = b := by
  have e : lg_cmp t.toInt64 c = -1 := by
    unfold lg_cmp
    rw [if_neg (fun q => by have := Int64.lt_iff_toInt_lt.mp q; rw [Int32.toInt_toInt64, hc] at this; omega), if_neg (fun q => by have := congrArg Int64.toInt q; rw [Int32.toInt_toInt64, hc] at this; omega)]
  rw [e]
  exact hb
theorem pm_zl_eq {cn : Jvm.ClassFile.Cond} {t : Int32} {c : Int64} (K : Int) {b : Bool} (hc : c.toInt = K) (h : t.toInt = K) (hb : pm_cz cn 0 0 = b) : pm_cz cn (lg_cmp t.toInt64 c) 0 = b := by
  have e : lg_cmp t.toInt64 c = 0 := by
    unfold lg_cmp
    rw [if_neg (fun q => by have := Int64.lt_iff_toInt_lt.mp q; rw [Int32.toInt_toInt64, hc] at this; omega), if_pos (Int64.toInt_inj.mp (by rw [Int32.toInt_toInt64, hc]; exact h))]
  rw [e]
  exact hb
theorem pm_zl_gt {cn : Jvm.ClassFile.Cond} {t : Int32} {c : Int64} (K : Int) {b : Bool} (hc : c.toInt = K) (h : K < t.toInt) (hb : pm_cz cn 1 0 = b) : pm_cz cn (lg_cmp t.toInt64 c) 0 = b := by
  have e : lg_cmp t.toInt64 c = 1 := by
    unfold lg_cmp
    rw [if_pos (Int64.lt_iff_toInt_lt.mpr (by rw [Int32.toInt_toInt64, hc]; exact h))]
  rw [e]
  exact hb
end
