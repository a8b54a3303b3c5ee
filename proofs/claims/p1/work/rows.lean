section
-- ===== PART A: goes FIRST, ahead of the names: the tables' words, and 'selects' of the private methods out of them =====
/-- a private method of a class that the tables say can be made, by its rows of tables_1 -/
def lw_okq (q : MethodName × Nat) : Prop := (q.1.cls ≠ "java/lang/invoke/MethodHandle" ∧ q.1.cls ≠ "java/lang/invoke/VarHandle") ∧ Cond.instantiable q.1.cls q.2 ∈ tables_1 ∧ Cond.privateMethod q.1 ∈ tables_1 ∧ Cond.instanceMethod q.1 ∈ tables_1
theorem lw_p0 : lw_okq (⟨"LambdaShelf", "freshTerm", "()LLambdaShelf$Code;"⟩, 13) := ⟨⟨by decide +kernel, by decide +kernel⟩, List.mem_of_getElem? (i := 19) (by decide +kernel), List.mem_of_getElem? (i := 230) (by decide +kernel), List.mem_of_getElem? (i := 231) (by decide +kernel)⟩
theorem lw_p1 : lw_okq (⟨"LambdaShelf$Reader", "startRow", "()V"⟩, 13) := ⟨⟨by decide +kernel, by decide +kernel⟩, List.mem_of_getElem? (i := 87) (by decide +kernel), List.mem_of_getElem? (i := 242) (by decide +kernel), List.mem_of_getElem? (i := 243) (by decide +kernel)⟩
theorem lw_p2 : lw_okq (⟨"LambdaShelf$Reader", "putItem", "(I)V"⟩, 13) := ⟨⟨by decide +kernel, by decide +kernel⟩, List.mem_of_getElem? (i := 87) (by decide +kernel), List.mem_of_getElem? (i := 246) (by decide +kernel), List.mem_of_getElem? (i := 247) (by decide +kernel)⟩
theorem lw_p3 : lw_okq (⟨"LambdaShelf$Reader", "takeTokens", "()V"⟩, 13) := ⟨⟨by decide +kernel, by decide +kernel⟩, List.mem_of_getElem? (i := 87) (by decide +kernel), List.mem_of_getElem? (i := 250) (by decide +kernel), List.mem_of_getElem? (i := 251) (by decide +kernel)⟩
theorem lw_p4 : lw_okq (⟨"LambdaShelf$Reader", "findToken", "()V"⟩, 13) := ⟨⟨by decide +kernel, by decide +kernel⟩, List.mem_of_getElem? (i := 87) (by decide +kernel), List.mem_of_getElem? (i := 254) (by decide +kernel), List.mem_of_getElem? (i := 255) (by decide +kernel)⟩
theorem lw_p5 : lw_okq (⟨"LambdaShelf$Reader", "findName", "()V"⟩, 13) := ⟨⟨by decide +kernel, by decide +kernel⟩, List.mem_of_getElem? (i := 87) (by decide +kernel), List.mem_of_getElem? (i := 265) (by decide +kernel), List.mem_of_getElem? (i := 266) (by decide +kernel)⟩
theorem lw_p6 : lw_okq (⟨"LambdaShelf$Reader", "fail", "(I)V"⟩, 13) := ⟨⟨by decide +kernel, by decide +kernel⟩, List.mem_of_getElem? (i := 87) (by decide +kernel), List.mem_of_getElem? (i := 269) (by decide +kernel), List.mem_of_getElem? (i := 270) (by decide +kernel)⟩
theorem lw_p7 : lw_okq (⟨"LambdaShelf$Reader", "findNumber", "()V"⟩, 13) := ⟨⟨by decide +kernel, by decide +kernel⟩, List.mem_of_getElem? (i := 87) (by decide +kernel), List.mem_of_getElem? (i := 276) (by decide +kernel), List.mem_of_getElem? (i := 277) (by decide +kernel)⟩
theorem lw_p8 : lw_okq (⟨"LambdaShelf$Reader", "numberRead", "()I"⟩, 13) := ⟨⟨by decide +kernel, by decide +kernel⟩, List.mem_of_getElem? (i := 87) (by decide +kernel), List.mem_of_getElem? (i := 280) (by decide +kernel), List.mem_of_getElem? (i := 281) (by decide +kernel)⟩
theorem lw_p9 : lw_okq (⟨"LambdaShelf$Reader", "takeToken", "()V"⟩, 13) := ⟨⟨by decide +kernel, by decide +kernel⟩, List.mem_of_getElem? (i := 87) (by decide +kernel), List.mem_of_getElem? (i := 369) (by decide +kernel), List.mem_of_getElem? (i := 370) (by decide +kernel)⟩
theorem lw_p10 : lw_okq (⟨"LambdaShelf$Reader", "takeInHead", "()V"⟩, 13) := ⟨⟨by decide +kernel, by decide +kernel⟩, List.mem_of_getElem? (i := 87) (by decide +kernel), List.mem_of_getElem? (i := 373) (by decide +kernel), List.mem_of_getElem? (i := 374) (by decide +kernel)⟩
theorem lw_p11 : lw_okq (⟨"LambdaShelf$Reader", "openUp", "(I)V"⟩, 13) := ⟨⟨by decide +kernel, by decide +kernel⟩, List.mem_of_getElem? (i := 87) (by decide +kernel), List.mem_of_getElem? (i := 377) (by decide +kernel), List.mem_of_getElem? (i := 378) (by decide +kernel)⟩
theorem lw_p12 : lw_okq (⟨"LambdaShelf$Reader", "takeVariable", "()V"⟩, 13) := ⟨⟨by decide +kernel, by decide +kernel⟩, List.mem_of_getElem? (i := 87) (by decide +kernel), List.mem_of_getElem? (i := 381) (by decide +kernel), List.mem_of_getElem? (i := 382) (by decide +kernel)⟩
theorem lw_p13 : lw_okq (⟨"LambdaShelf$Reader", "isNameAt", "(I)Z"⟩, 13) := ⟨⟨by decide +kernel, by decide +kernel⟩, List.mem_of_getElem? (i := 87) (by decide +kernel), List.mem_of_getElem? (i := 385) (by decide +kernel), List.mem_of_getElem? (i := 386) (by decide +kernel)⟩
theorem lw_p14 : lw_okq (⟨"LambdaShelf$Reader", "takePart", "(I)V"⟩, 13) := ⟨⟨by decide +kernel, by decide +kernel⟩, List.mem_of_getElem? (i := 87) (by decide +kernel), List.mem_of_getElem? (i := 389) (by decide +kernel), List.mem_of_getElem? (i := 390) (by decide +kernel)⟩
theorem lw_p15 : lw_okq (⟨"LambdaShelf$Reader", "countPart", "()V"⟩, 13) := ⟨⟨by decide +kernel, by decide +kernel⟩, List.mem_of_getElem? (i := 87) (by decide +kernel), List.mem_of_getElem? (i := 393) (by decide +kernel), List.mem_of_getElem? (i := 394) (by decide +kernel)⟩
def lw_privs_1 : List (MethodName × Nat) := [(⟨"LambdaShelf", "freshTerm", "()LLambdaShelf$Code;"⟩, 13), (⟨"LambdaShelf$Reader", "startRow", "()V"⟩, 13), (⟨"LambdaShelf$Reader", "putItem", "(I)V"⟩, 13), (⟨"LambdaShelf$Reader", "takeTokens", "()V"⟩, 13), (⟨"LambdaShelf$Reader", "findToken", "()V"⟩, 13), (⟨"LambdaShelf$Reader", "findName", "()V"⟩, 13), (⟨"LambdaShelf$Reader", "fail", "(I)V"⟩, 13), (⟨"LambdaShelf$Reader", "findNumber", "()V"⟩, 13), (⟨"LambdaShelf$Reader", "numberRead", "()I"⟩, 13), (⟨"LambdaShelf$Reader", "takeToken", "()V"⟩, 13), (⟨"LambdaShelf$Reader", "takeInHead", "()V"⟩, 13), (⟨"LambdaShelf$Reader", "openUp", "(I)V"⟩, 13), (⟨"LambdaShelf$Reader", "takeVariable", "()V"⟩, 13), (⟨"LambdaShelf$Reader", "isNameAt", "(I)Z"⟩, 13), (⟨"LambdaShelf$Reader", "takePart", "(I)V"⟩, 13), (⟨"LambdaShelf$Reader", "countPart", "()V"⟩, 13)]
theorem lw_r1 : ∀ q ∈ lw_privs_1, lw_okq q := List.forall_mem_cons.mpr ⟨lw_p0, List.forall_mem_cons.mpr ⟨lw_p1, List.forall_mem_cons.mpr ⟨lw_p2, List.forall_mem_cons.mpr ⟨lw_p3, List.forall_mem_cons.mpr ⟨lw_p4, List.forall_mem_cons.mpr ⟨lw_p5, List.forall_mem_cons.mpr ⟨lw_p6, List.forall_mem_cons.mpr ⟨lw_p7, List.forall_mem_cons.mpr ⟨lw_p8, List.forall_mem_cons.mpr ⟨lw_p9, List.forall_mem_cons.mpr ⟨lw_p10, List.forall_mem_cons.mpr ⟨lw_p11, List.forall_mem_cons.mpr ⟨lw_p12, List.forall_mem_cons.mpr ⟨lw_p13, List.forall_mem_cons.mpr ⟨lw_p14, List.forall_mem_cons.mpr ⟨lw_p15, fun _ h => absurd h List.not_mem_nil⟩⟩⟩⟩⟩⟩⟩⟩⟩⟩⟩⟩⟩⟩⟩⟩
theorem lw_p16 : lw_okq (⟨"LambdaShelf$Reader", "takeSign", "(I)V"⟩, 13) := ⟨⟨by decide +kernel, by decide +kernel⟩, List.mem_of_getElem? (i := 87) (by decide +kernel), List.mem_of_getElem? (i := 397) (by decide +kernel), List.mem_of_getElem? (i := 398) (by decide +kernel)⟩
theorem lw_p17 : lw_okq (⟨"LambdaShelf$Reader", "closeParenthesis", "()V"⟩, 13) := ⟨⟨by decide +kernel, by decide +kernel⟩, List.mem_of_getElem? (i := 87) (by decide +kernel), List.mem_of_getElem? (i := 401) (by decide +kernel), List.mem_of_getElem? (i := 402) (by decide +kernel)⟩
theorem lw_p18 : lw_okq (⟨"LambdaShelf$Reader", "innermostParenthesis", "()I"⟩, 13) := ⟨⟨by decide +kernel, by decide +kernel⟩, List.mem_of_getElem? (i := 87) (by decide +kernel), List.mem_of_getElem? (i := 405) (by decide +kernel), List.mem_of_getElem? (i := 406) (by decide +kernel)⟩
theorem lw_p19 : lw_okq (⟨"LambdaShelf$Reader", "isRowEmpty", "()Z"⟩, 13) := ⟨⟨by decide +kernel, by decide +kernel⟩, List.mem_of_getElem? (i := 87) (by decide +kernel), List.mem_of_getElem? (i := 409) (by decide +kernel), List.mem_of_getElem? (i := 410) (by decide +kernel)⟩
theorem lw_p20 : lw_okq (⟨"LambdaShelf$Reader", "takeEnd", "()V"⟩, 13) := ⟨⟨by decide +kernel, by decide +kernel⟩, List.mem_of_getElem? (i := 87) (by decide +kernel), List.mem_of_getElem? (i := 413) (by decide +kernel), List.mem_of_getElem? (i := 414) (by decide +kernel)⟩
theorem lw_p21 : lw_okq (⟨"LambdaShelf$Reader", "putItems", "(LLambdaShelf$Code;)V"⟩, 13) := ⟨⟨by decide +kernel, by decide +kernel⟩, List.mem_of_getElem? (i := 87) (by decide +kernel), List.mem_of_getElem? (i := 417) (by decide +kernel), List.mem_of_getElem? (i := 418) (by decide +kernel)⟩
theorem lw_p22 : lw_okq (⟨"LambdaShelf", "keepFresh", "()I"⟩, 13) := ⟨⟨by decide +kernel, by decide +kernel⟩, List.mem_of_getElem? (i := 19) (by decide +kernel), List.mem_of_getElem? (i := 431) (by decide +kernel), List.mem_of_getElem? (i := 432) (by decide +kernel)⟩
theorem lw_p23 : lw_okq (⟨"LambdaShelf", "termAt", "(I)LLambdaShelf$Code;"⟩, 13) := ⟨⟨by decide +kernel, by decide +kernel⟩, List.mem_of_getElem? (i := 19) (by decide +kernel), List.mem_of_getElem? (i := 444) (by decide +kernel), List.mem_of_getElem? (i := 445) (by decide +kernel)⟩
theorem lw_p24 : lw_okq (⟨"LambdaShelf$Teller", "tellNode", "(I)V"⟩, 6) := ⟨⟨by decide +kernel, by decide +kernel⟩, List.mem_of_getElem? (i := 134) (by decide +kernel), List.mem_of_getElem? (i := 465) (by decide +kernel), List.mem_of_getElem? (i := 466) (by decide +kernel)⟩
theorem lw_p25 : lw_okq (⟨"LambdaShelf$Teller", "isWrapped", "(I)Z"⟩, 6) := ⟨⟨by decide +kernel, by decide +kernel⟩, List.mem_of_getElem? (i := 134) (by decide +kernel), List.mem_of_getElem? (i := 469) (by decide +kernel), List.mem_of_getElem? (i := 470) (by decide +kernel)⟩
theorem lw_p26 : lw_okq (⟨"LambdaShelf$Teller", "tell", "(I)V"⟩, 6) := ⟨⟨by decide +kernel, by decide +kernel⟩, List.mem_of_getElem? (i := 134) (by decide +kernel), List.mem_of_getElem? (i := 473) (by decide +kernel), List.mem_of_getElem? (i := 474) (by decide +kernel)⟩
theorem lw_p27 : lw_okq (⟨"LambdaShelf$Teller", "goInto", "(I)V"⟩, 6) := ⟨⟨by decide +kernel, by decide +kernel⟩, List.mem_of_getElem? (i := 134) (by decide +kernel), List.mem_of_getElem? (i := 477) (by decide +kernel), List.mem_of_getElem? (i := 478) (by decide +kernel)⟩
theorem lw_p28 : lw_okq (⟨"LambdaShelf$Teller", "tellName", "(I)V"⟩, 6) := ⟨⟨by decide +kernel, by decide +kernel⟩, List.mem_of_getElem? (i := 134) (by decide +kernel), List.mem_of_getElem? (i := 481) (by decide +kernel), List.mem_of_getElem? (i := 482) (by decide +kernel)⟩
theorem lw_p29 : lw_okq (⟨"LambdaShelf$Teller", "tellLeaf", "(I)V"⟩, 6) := ⟨⟨by decide +kernel, by decide +kernel⟩, List.mem_of_getElem? (i := 134) (by decide +kernel), List.mem_of_getElem? (i := 485) (by decide +kernel), List.mem_of_getElem? (i := 486) (by decide +kernel)⟩
theorem lw_p30 : lw_okq (⟨"LambdaShelf$Teller", "leaveEnded", "()V"⟩, 6) := ⟨⟨by decide +kernel, by decide +kernel⟩, List.mem_of_getElem? (i := 134) (by decide +kernel), List.mem_of_getElem? (i := 510) (by decide +kernel), List.mem_of_getElem? (i := 511) (by decide +kernel)⟩
theorem lw_p31 : lw_okq (⟨"LambdaShelf$Turner", "firstPlace", "(LLambdaShelf$Code;)I"⟩, 2) := ⟨⟨by decide +kernel, by decide +kernel⟩, List.mem_of_getElem? (i := 159) (by decide +kernel), List.mem_of_getElem? (i := 559) (by decide +kernel), List.mem_of_getElem? (i := 560) (by decide +kernel)⟩
def lw_privs_2 : List (MethodName × Nat) := [(⟨"LambdaShelf$Reader", "takeSign", "(I)V"⟩, 13), (⟨"LambdaShelf$Reader", "closeParenthesis", "()V"⟩, 13), (⟨"LambdaShelf$Reader", "innermostParenthesis", "()I"⟩, 13), (⟨"LambdaShelf$Reader", "isRowEmpty", "()Z"⟩, 13), (⟨"LambdaShelf$Reader", "takeEnd", "()V"⟩, 13), (⟨"LambdaShelf$Reader", "putItems", "(LLambdaShelf$Code;)V"⟩, 13), (⟨"LambdaShelf", "keepFresh", "()I"⟩, 13), (⟨"LambdaShelf", "termAt", "(I)LLambdaShelf$Code;"⟩, 13), (⟨"LambdaShelf$Teller", "tellNode", "(I)V"⟩, 6), (⟨"LambdaShelf$Teller", "isWrapped", "(I)Z"⟩, 6), (⟨"LambdaShelf$Teller", "tell", "(I)V"⟩, 6), (⟨"LambdaShelf$Teller", "goInto", "(I)V"⟩, 6), (⟨"LambdaShelf$Teller", "tellName", "(I)V"⟩, 6), (⟨"LambdaShelf$Teller", "tellLeaf", "(I)V"⟩, 6), (⟨"LambdaShelf$Teller", "leaveEnded", "()V"⟩, 6), (⟨"LambdaShelf$Turner", "firstPlace", "(LLambdaShelf$Code;)I"⟩, 2)]
theorem lw_r2 : ∀ q ∈ lw_privs_2, lw_okq q := List.forall_mem_cons.mpr ⟨lw_p16, List.forall_mem_cons.mpr ⟨lw_p17, List.forall_mem_cons.mpr ⟨lw_p18, List.forall_mem_cons.mpr ⟨lw_p19, List.forall_mem_cons.mpr ⟨lw_p20, List.forall_mem_cons.mpr ⟨lw_p21, List.forall_mem_cons.mpr ⟨lw_p22, List.forall_mem_cons.mpr ⟨lw_p23, List.forall_mem_cons.mpr ⟨lw_p24, List.forall_mem_cons.mpr ⟨lw_p25, List.forall_mem_cons.mpr ⟨lw_p26, List.forall_mem_cons.mpr ⟨lw_p27, List.forall_mem_cons.mpr ⟨lw_p28, List.forall_mem_cons.mpr ⟨lw_p29, List.forall_mem_cons.mpr ⟨lw_p30, List.forall_mem_cons.mpr ⟨lw_p31, fun _ h => absurd h List.not_mem_nil⟩⟩⟩⟩⟩⟩⟩⟩⟩⟩⟩⟩⟩⟩⟩⟩
theorem lw_p32 : lw_okq (⟨"LambdaShelf$Turner", "innerPlace", "(LLambdaShelf$Code;)I"⟩, 2) := ⟨⟨by decide +kernel, by decide +kernel⟩, List.mem_of_getElem? (i := 159) (by decide +kernel), List.mem_of_getElem? (i := 567) (by decide +kernel), List.mem_of_getElem? (i := 568) (by decide +kernel)⟩
theorem lw_p33 : lw_okq (⟨"LambdaShelf$Shape", "endBy", "(II)I"⟩, 2) := ⟨⟨by decide +kernel, by decide +kernel⟩, List.mem_of_getElem? (i := 74) (by decide +kernel), List.mem_of_getElem? (i := 578) (by decide +kernel), List.mem_of_getElem? (i := 579) (by decide +kernel)⟩
theorem lw_p34 : lw_okq (⟨"LambdaShelf$Shape", "putDepth", "(II)V"⟩, 2) := ⟨⟨by decide +kernel, by decide +kernel⟩, List.mem_of_getElem? (i := 74) (by decide +kernel), List.mem_of_getElem? (i := 586) (by decide +kernel), List.mem_of_getElem? (i := 587) (by decide +kernel)⟩
theorem lw_p35 : lw_okq (⟨"LambdaShelf$Shape", "spreadDepth", "(II)V"⟩, 2) := ⟨⟨by decide +kernel, by decide +kernel⟩, List.mem_of_getElem? (i := 74) (by decide +kernel), List.mem_of_getElem? (i := 590) (by decide +kernel), List.mem_of_getElem? (i := 591) (by decide +kernel)⟩
theorem lw_p36 : lw_okq (⟨"LambdaShelf$Turner", "headPlace", "(LLambdaShelf$Code;)I"⟩, 2) := ⟨⟨by decide +kernel, by decide +kernel⟩, List.mem_of_getElem? (i := 159) (by decide +kernel), List.mem_of_getElem? (i := 599) (by decide +kernel), List.mem_of_getElem? (i := 600) (by decide +kernel)⟩
theorem lw_p37 : lw_okq (⟨"LambdaShelf$Turner", "shorterPlace", "(LLambdaShelf$Code;)I"⟩, 2) := ⟨⟨by decide +kernel, by decide +kernel⟩, List.mem_of_getElem? (i := 159) (by decide +kernel), List.mem_of_getElem? (i := 603) (by decide +kernel), List.mem_of_getElem? (i := 604) (by decide +kernel)⟩
theorem lw_p38 : lw_okq (⟨"LambdaShelf$Turner", "isShortened", "(LLambdaShelf$Code;I)Z"⟩, 2) := ⟨⟨by decide +kernel, by decide +kernel⟩, List.mem_of_getElem? (i := 159) (by decide +kernel), List.mem_of_getElem? (i := 607) (by decide +kernel), List.mem_of_getElem? (i := 608) (by decide +kernel)⟩
theorem lw_p39 : lw_okq (⟨"LambdaShelf$Turner", "isBoundIn", "(LLambdaShelf$Code;III)Z"⟩, 2) := ⟨⟨by decide +kernel, by decide +kernel⟩, List.mem_of_getElem? (i := 159) (by decide +kernel), List.mem_of_getElem? (i := 612) (by decide +kernel), List.mem_of_getElem? (i := 613) (by decide +kernel)⟩
theorem lw_p40 : lw_okq (⟨"LambdaShelf$Turner", "putBody", "(LLambdaShelf$Code;III)V"⟩, 2) := ⟨⟨by decide +kernel, by decide +kernel⟩, List.mem_of_getElem? (i := 159) (by decide +kernel), List.mem_of_getElem? (i := 625) (by decide +kernel), List.mem_of_getElem? (i := 626) (by decide +kernel)⟩
theorem lw_p41 : lw_okq (⟨"LambdaShelf$Turner", "putRaised", "(LLambdaShelf$Code;III)V"⟩, 2) := ⟨⟨by decide +kernel, by decide +kernel⟩, List.mem_of_getElem? (i := 159) (by decide +kernel), List.mem_of_getElem? (i := 629) (by decide +kernel), List.mem_of_getElem? (i := 630) (by decide +kernel)⟩
theorem lw_p42 : lw_okq (⟨"LambdaShelf$Turner", "putTurned", "(LLambdaShelf$Code;II)V"⟩, 2) := ⟨⟨by decide +kernel, by decide +kernel⟩, List.mem_of_getElem? (i := 159) (by decide +kernel), List.mem_of_getElem? (i := 634) (by decide +kernel), List.mem_of_getElem? (i := 635) (by decide +kernel)⟩
theorem lw_p43 : lw_okq (⟨"LambdaShelf$Turner", "putShared", "(LLambdaShelf$Code;II)V"⟩, 2) := ⟨⟨by decide +kernel, by decide +kernel⟩, List.mem_of_getElem? (i := 159) (by decide +kernel), List.mem_of_getElem? (i := 639) (by decide +kernel), List.mem_of_getElem? (i := 640) (by decide +kernel)⟩
theorem lw_p44 : lw_okq (⟨"LambdaShelf$Abstracter", "takeLambdaOut", "()Z"⟩, 6) := ⟨⟨by decide +kernel, by decide +kernel⟩, List.mem_of_getElem? (i := 676) (by decide +kernel), List.mem_of_getElem? (i := 708) (by decide +kernel), List.mem_of_getElem? (i := 709) (by decide +kernel)⟩
theorem lw_p45 : lw_okq (⟨"LambdaShelf$Abstracter", "unholdBody", "()V"⟩, 6) := ⟨⟨by decide +kernel, by decide +kernel⟩, List.mem_of_getElem? (i := 676) (by decide +kernel), List.mem_of_getElem? (i := 712) (by decide +kernel), List.mem_of_getElem? (i := 713) (by decide +kernel)⟩
theorem lw_p46 : lw_okq (⟨"LambdaShelf$Abstracter", "heldAt", "(I)I"⟩, 6) := ⟨⟨by decide +kernel, by decide +kernel⟩, List.mem_of_getElem? (i := 676) (by decide +kernel), List.mem_of_getElem? (i := 717) (by decide +kernel), List.mem_of_getElem? (i := 718) (by decide +kernel)⟩
theorem lw_p47 : lw_okq (⟨"LambdaShelf$Abstracter", "countMet", "()V"⟩, 6) := ⟨⟨by decide +kernel, by decide +kernel⟩, List.mem_of_getElem? (i := 676) (by decide +kernel), List.mem_of_getElem? (i := 723) (by decide +kernel), List.mem_of_getElem? (i := 724) (by decide +kernel)⟩
def lw_privs_3 : List (MethodName × Nat) := [(⟨"LambdaShelf$Turner", "innerPlace", "(LLambdaShelf$Code;)I"⟩, 2), (⟨"LambdaShelf$Shape", "endBy", "(II)I"⟩, 2), (⟨"LambdaShelf$Shape", "putDepth", "(II)V"⟩, 2), (⟨"LambdaShelf$Shape", "spreadDepth", "(II)V"⟩, 2), (⟨"LambdaShelf$Turner", "headPlace", "(LLambdaShelf$Code;)I"⟩, 2), (⟨"LambdaShelf$Turner", "shorterPlace", "(LLambdaShelf$Code;)I"⟩, 2), (⟨"LambdaShelf$Turner", "isShortened", "(LLambdaShelf$Code;I)Z"⟩, 2), (⟨"LambdaShelf$Turner", "isBoundIn", "(LLambdaShelf$Code;III)Z"⟩, 2), (⟨"LambdaShelf$Turner", "putBody", "(LLambdaShelf$Code;III)V"⟩, 2), (⟨"LambdaShelf$Turner", "putRaised", "(LLambdaShelf$Code;III)V"⟩, 2), (⟨"LambdaShelf$Turner", "putTurned", "(LLambdaShelf$Code;II)V"⟩, 2), (⟨"LambdaShelf$Turner", "putShared", "(LLambdaShelf$Code;II)V"⟩, 2), (⟨"LambdaShelf$Abstracter", "takeLambdaOut", "()Z"⟩, 6), (⟨"LambdaShelf$Abstracter", "unholdBody", "()V"⟩, 6), (⟨"LambdaShelf$Abstracter", "heldAt", "(I)I"⟩, 6), (⟨"LambdaShelf$Abstracter", "countMet", "()V"⟩, 6)]
theorem lw_r3 : ∀ q ∈ lw_privs_3, lw_okq q := List.forall_mem_cons.mpr ⟨lw_p32, List.forall_mem_cons.mpr ⟨lw_p33, List.forall_mem_cons.mpr ⟨lw_p34, List.forall_mem_cons.mpr ⟨lw_p35, List.forall_mem_cons.mpr ⟨lw_p36, List.forall_mem_cons.mpr ⟨lw_p37, List.forall_mem_cons.mpr ⟨lw_p38, List.forall_mem_cons.mpr ⟨lw_p39, List.forall_mem_cons.mpr ⟨lw_p40, List.forall_mem_cons.mpr ⟨lw_p41, List.forall_mem_cons.mpr ⟨lw_p42, List.forall_mem_cons.mpr ⟨lw_p43, List.forall_mem_cons.mpr ⟨lw_p44, List.forall_mem_cons.mpr ⟨lw_p45, List.forall_mem_cons.mpr ⟨lw_p46, List.forall_mem_cons.mpr ⟨lw_p47, fun _ h => absurd h List.not_mem_nil⟩⟩⟩⟩⟩⟩⟩⟩⟩⟩⟩⟩⟩⟩⟩⟩
theorem lw_p48 : lw_okq (⟨"LambdaShelf$Abstracter", "putAbstracted", "()V"⟩, 6) := ⟨⟨by decide +kernel, by decide +kernel⟩, List.mem_of_getElem? (i := 676) (by decide +kernel), List.mem_of_getElem? (i := 727) (by decide +kernel), List.mem_of_getElem? (i := 728) (by decide +kernel)⟩
theorem lw_p49 : lw_okq (⟨"LambdaShelf$Abstracter", "isMet", "(II)Z"⟩, 6) := ⟨⟨by decide +kernel, by decide +kernel⟩, List.mem_of_getElem? (i := 676) (by decide +kernel), List.mem_of_getElem? (i := 733) (by decide +kernel), List.mem_of_getElem? (i := 734) (by decide +kernel)⟩
theorem lw_p50 : lw_okq (⟨"LambdaShelf$Abstracter", "putLowered", "(II)V"⟩, 6) := ⟨⟨by decide +kernel, by decide +kernel⟩, List.mem_of_getElem? (i := 676) (by decide +kernel), List.mem_of_getElem? (i := 737) (by decide +kernel), List.mem_of_getElem? (i := 738) (by decide +kernel)⟩
theorem lw_p51 : lw_okq (⟨"LambdaShelf$Abstracter", "hold", "(I)Z"⟩, 6) := ⟨⟨by decide +kernel, by decide +kernel⟩, List.mem_of_getElem? (i := 676) (by decide +kernel), List.mem_of_getElem? (i := 741) (by decide +kernel), List.mem_of_getElem? (i := 742) (by decide +kernel)⟩
theorem lw_p52 : lw_okq (⟨"LambdaShelf", "putTrial", "(LLambdaShelf$Code;)V"⟩, 13) := ⟨⟨by decide +kernel, by decide +kernel⟩, List.mem_of_getElem? (i := 19) (by decide +kernel), List.mem_of_getElem? (i := 759) (by decide +kernel), List.mem_of_getElem? (i := 760) (by decide +kernel)⟩
theorem lw_p53 : lw_okq (⟨"LambdaShelf$Typer", "any", "()I"⟩, 13) := ⟨⟨by decide +kernel, by decide +kernel⟩, List.mem_of_getElem? (i := 767) (by decide +kernel), List.mem_of_getElem? (i := 821) (by decide +kernel), List.mem_of_getElem? (i := 822) (by decide +kernel)⟩
theorem lw_p54 : lw_okq (⟨"LambdaShelf$Typer", "arrow", "(II)I"⟩, 13) := ⟨⟨by decide +kernel, by decide +kernel⟩, List.mem_of_getElem? (i := 767) (by decide +kernel), List.mem_of_getElem? (i := 825) (by decide +kernel), List.mem_of_getElem? (i := 826) (by decide +kernel)⟩
theorem lw_p55 : lw_okq (⟨"LambdaShelf$Typer", "await", "(I)V"⟩, 13) := ⟨⟨by decide +kernel, by decide +kernel⟩, List.mem_of_getElem? (i := 767) (by decide +kernel), List.mem_of_getElem? (i := 833) (by decide +kernel), List.mem_of_getElem? (i := 834) (by decide +kernel)⟩
theorem lw_p56 : lw_okq (⟨"LambdaShelf$Typer", "nextWaiting", "()I"⟩, 13) := ⟨⟨by decide +kernel, by decide +kernel⟩, List.mem_of_getElem? (i := 767) (by decide +kernel), List.mem_of_getElem? (i := 838) (by decide +kernel), List.mem_of_getElem? (i := 839) (by decide +kernel)⟩
theorem lw_p57 : lw_okq (⟨"LambdaShelf$Typer", "typeNode", "(III)V"⟩, 13) := ⟨⟨by decide +kernel, by decide +kernel⟩, List.mem_of_getElem? (i := 767) (by decide +kernel), List.mem_of_getElem? (i := 842) (by decide +kernel), List.mem_of_getElem? (i := 843) (by decide +kernel)⟩
theorem lw_p58 : lw_okq (⟨"LambdaShelf$Typer", "typeApply", "(I)V"⟩, 13) := ⟨⟨by decide +kernel, by decide +kernel⟩, List.mem_of_getElem? (i := 767) (by decide +kernel), List.mem_of_getElem? (i := 846) (by decide +kernel), List.mem_of_getElem? (i := 847) (by decide +kernel)⟩
theorem lw_p59 : lw_okq (⟨"LambdaShelf$Typer", "typeOfLambda", "(I)I"⟩, 13) := ⟨⟨by decide +kernel, by decide +kernel⟩, List.mem_of_getElem? (i := 767) (by decide +kernel), List.mem_of_getElem? (i := 851) (by decide +kernel), List.mem_of_getElem? (i := 852) (by decide +kernel)⟩
theorem lw_p60 : lw_okq (⟨"LambdaShelf$Typer", "joinAll", "(II)V"⟩, 13) := ⟨⟨by decide +kernel, by decide +kernel⟩, List.mem_of_getElem? (i := 767) (by decide +kernel), List.mem_of_getElem? (i := 855) (by decide +kernel), List.mem_of_getElem? (i := 856) (by decide +kernel)⟩
theorem lw_p61 : lw_okq (⟨"LambdaShelf$Typer", "join", "(III)I"⟩, 13) := ⟨⟨by decide +kernel, by decide +kernel⟩, List.mem_of_getElem? (i := 767) (by decide +kernel), List.mem_of_getElem? (i := 859) (by decide +kernel), List.mem_of_getElem? (i := 860) (by decide +kernel)⟩
theorem lw_p62 : lw_okq (⟨"LambdaShelf$Typer", "rootOf", "(I)I"⟩, 13) := ⟨⟨by decide +kernel, by decide +kernel⟩, List.mem_of_getElem? (i := 767) (by decide +kernel), List.mem_of_getElem? (i := 863) (by decide +kernel), List.mem_of_getElem? (i := 864) (by decide +kernel)⟩
theorem lw_p63 : lw_okq (⟨"LambdaShelf$Typer", "isArrow", "(I)Z"⟩, 13) := ⟨⟨by decide +kernel, by decide +kernel⟩, List.mem_of_getElem? (i := 767) (by decide +kernel), List.mem_of_getElem? (i := 870) (by decide +kernel), List.mem_of_getElem? (i := 871) (by decide +kernel)⟩
def lw_privs_4 : List (MethodName × Nat) := [(⟨"LambdaShelf$Abstracter", "putAbstracted", "()V"⟩, 6), (⟨"LambdaShelf$Abstracter", "isMet", "(II)Z"⟩, 6), (⟨"LambdaShelf$Abstracter", "putLowered", "(II)V"⟩, 6), (⟨"LambdaShelf$Abstracter", "hold", "(I)Z"⟩, 6), (⟨"LambdaShelf", "putTrial", "(LLambdaShelf$Code;)V"⟩, 13), (⟨"LambdaShelf$Typer", "any", "()I"⟩, 13), (⟨"LambdaShelf$Typer", "arrow", "(II)I"⟩, 13), (⟨"LambdaShelf$Typer", "await", "(I)V"⟩, 13), (⟨"LambdaShelf$Typer", "nextWaiting", "()I"⟩, 13), (⟨"LambdaShelf$Typer", "typeNode", "(III)V"⟩, 13), (⟨"LambdaShelf$Typer", "typeApply", "(I)V"⟩, 13), (⟨"LambdaShelf$Typer", "typeOfLambda", "(I)I"⟩, 13), (⟨"LambdaShelf$Typer", "joinAll", "(II)V"⟩, 13), (⟨"LambdaShelf$Typer", "join", "(III)I"⟩, 13), (⟨"LambdaShelf$Typer", "rootOf", "(I)I"⟩, 13), (⟨"LambdaShelf$Typer", "isArrow", "(I)Z"⟩, 13)]
theorem lw_r4 : ∀ q ∈ lw_privs_4, lw_okq q := List.forall_mem_cons.mpr ⟨lw_p48, List.forall_mem_cons.mpr ⟨lw_p49, List.forall_mem_cons.mpr ⟨lw_p50, List.forall_mem_cons.mpr ⟨lw_p51, List.forall_mem_cons.mpr ⟨lw_p52, List.forall_mem_cons.mpr ⟨lw_p53, List.forall_mem_cons.mpr ⟨lw_p54, List.forall_mem_cons.mpr ⟨lw_p55, List.forall_mem_cons.mpr ⟨lw_p56, List.forall_mem_cons.mpr ⟨lw_p57, List.forall_mem_cons.mpr ⟨lw_p58, List.forall_mem_cons.mpr ⟨lw_p59, List.forall_mem_cons.mpr ⟨lw_p60, List.forall_mem_cons.mpr ⟨lw_p61, List.forall_mem_cons.mpr ⟨lw_p62, List.forall_mem_cons.mpr ⟨lw_p63, fun _ h => absurd h List.not_mem_nil⟩⟩⟩⟩⟩⟩⟩⟩⟩⟩⟩⟩⟩⟩⟩⟩
theorem lw_p64 : lw_okq (⟨"LambdaShelf$Typer", "enqueue", "(II)I"⟩, 13) := ⟨⟨by decide +kernel, by decide +kernel⟩, List.mem_of_getElem? (i := 767) (by decide +kernel), List.mem_of_getElem? (i := 874) (by decide +kernel), List.mem_of_getElem? (i := 875) (by decide +kernel)⟩
theorem lw_p65 : lw_okq (⟨"LambdaShelf$Typer", "typeOfLetter", "(I)I"⟩, 13) := ⟨⟨by decide +kernel, by decide +kernel⟩, List.mem_of_getElem? (i := 767) (by decide +kernel), List.mem_of_getElem? (i := 879) (by decide +kernel), List.mem_of_getElem? (i := 880) (by decide +kernel)⟩
theorem lw_p66 : lw_okq (⟨"LambdaShelf$Typer", "typeOfS", "(III)I"⟩, 13) := ⟨⟨by decide +kernel, by decide +kernel⟩, List.mem_of_getElem? (i := 767) (by decide +kernel), List.mem_of_getElem? (i := 883) (by decide +kernel), List.mem_of_getElem? (i := 884) (by decide +kernel)⟩
theorem lw_p67 : lw_okq (⟨"LambdaShelf$Typer", "typeOfK", "(II)I"⟩, 13) := ⟨⟨by decide +kernel, by decide +kernel⟩, List.mem_of_getElem? (i := 767) (by decide +kernel), List.mem_of_getElem? (i := 887) (by decide +kernel), List.mem_of_getElem? (i := 888) (by decide +kernel)⟩
theorem lw_p68 : lw_okq (⟨"LambdaShelf$Typer", "typeOfI", "(I)I"⟩, 13) := ⟨⟨by decide +kernel, by decide +kernel⟩, List.mem_of_getElem? (i := 767) (by decide +kernel), List.mem_of_getElem? (i := 891) (by decide +kernel), List.mem_of_getElem? (i := 892) (by decide +kernel)⟩
theorem lw_p69 : lw_okq (⟨"LambdaShelf$Typer", "hasCircle", "()Z"⟩, 13) := ⟨⟨by decide +kernel, by decide +kernel⟩, List.mem_of_getElem? (i := 767) (by decide +kernel), List.mem_of_getElem? (i := 895) (by decide +kernel), List.mem_of_getElem? (i := 896) (by decide +kernel)⟩
theorem lw_p70 : lw_okq (⟨"LambdaShelf$Typer", "countSides", "()V"⟩, 13) := ⟨⟨by decide +kernel, by decide +kernel⟩, List.mem_of_getElem? (i := 767) (by decide +kernel), List.mem_of_getElem? (i := 899) (by decide +kernel), List.mem_of_getElem? (i := 900) (by decide +kernel)⟩
theorem lw_p71 : lw_okq (⟨"LambdaShelf$Typer", "clearMarks", "()V"⟩, 13) := ⟨⟨by decide +kernel, by decide +kernel⟩, List.mem_of_getElem? (i := 767) (by decide +kernel), List.mem_of_getElem? (i := 903) (by decide +kernel), List.mem_of_getElem? (i := 904) (by decide +kernel)⟩
theorem lw_p72 : lw_okq (⟨"LambdaShelf$Typer", "countSide", "(I)V"⟩, 13) := ⟨⟨by decide +kernel, by decide +kernel⟩, List.mem_of_getElem? (i := 767) (by decide +kernel), List.mem_of_getElem? (i := 907) (by decide +kernel), List.mem_of_getElem? (i := 908) (by decide +kernel)⟩
theorem lw_p73 : lw_okq (⟨"LambdaShelf$Typer", "release", "(II)I"⟩, 13) := ⟨⟨by decide +kernel, by decide +kernel⟩, List.mem_of_getElem? (i := 767) (by decide +kernel), List.mem_of_getElem? (i := 911) (by decide +kernel), List.mem_of_getElem? (i := 912) (by decide +kernel)⟩
theorem lw_p74 : lw_okq (⟨"LambdaShelf$Typer", "tellType", "(I)V"⟩, 13) := ⟨⟨by decide +kernel, by decide +kernel⟩, List.mem_of_getElem? (i := 767) (by decide +kernel), List.mem_of_getElem? (i := 915) (by decide +kernel), List.mem_of_getElem? (i := 916) (by decide +kernel)⟩
theorem lw_p75 : lw_okq (⟨"LambdaShelf", "allNodes", "()I"⟩, 13) := ⟨⟨by decide +kernel, by decide +kernel⟩, List.mem_of_getElem? (i := 19) (by decide +kernel), List.mem_of_getElem? (i := 947) (by decide +kernel), List.mem_of_getElem? (i := 948) (by decide +kernel)⟩
theorem lw_p76 : lw_okq (⟨"LambdaShelfModel", "put", "(I)V"⟩, 49) := ⟨⟨by decide +kernel, by decide +kernel⟩, List.mem_of_getElem? (i := 951) (by decide +kernel), List.mem_of_getElem? (i := 1111) (by decide +kernel), List.mem_of_getElem? (i := 1112) (by decide +kernel)⟩
theorem lw_p77 : lw_okq (⟨"LambdaShelfModel", "readTerm", "()V"⟩, 49) := ⟨⟨by decide +kernel, by decide +kernel⟩, List.mem_of_getElem? (i := 951) (by decide +kernel), List.mem_of_getElem? (i := 1126) (by decide +kernel), List.mem_of_getElem? (i := 1127) (by decide +kernel)⟩
theorem lw_p78 : lw_okq (⟨"LambdaShelfModel", "level", "(I)V"⟩, 49) := ⟨⟨by decide +kernel, by decide +kernel⟩, List.mem_of_getElem? (i := 951) (by decide +kernel), List.mem_of_getElem? (i := 1130) (by decide +kernel), List.mem_of_getElem? (i := 1131) (by decide +kernel)⟩
theorem lw_p79 : lw_okq (⟨"LambdaShelfModel", "next", "()V"⟩, 49) := ⟨⟨by decide +kernel, by decide +kernel⟩, List.mem_of_getElem? (i := 951) (by decide +kernel), List.mem_of_getElem? (i := 1134) (by decide +kernel), List.mem_of_getElem? (i := 1135) (by decide +kernel)⟩
def lw_privs_5 : List (MethodName × Nat) := [(⟨"LambdaShelf$Typer", "enqueue", "(II)I"⟩, 13), (⟨"LambdaShelf$Typer", "typeOfLetter", "(I)I"⟩, 13), (⟨"LambdaShelf$Typer", "typeOfS", "(III)I"⟩, 13), (⟨"LambdaShelf$Typer", "typeOfK", "(II)I"⟩, 13), (⟨"LambdaShelf$Typer", "typeOfI", "(I)I"⟩, 13), (⟨"LambdaShelf$Typer", "hasCircle", "()Z"⟩, 13), (⟨"LambdaShelf$Typer", "countSides", "()V"⟩, 13), (⟨"LambdaShelf$Typer", "clearMarks", "()V"⟩, 13), (⟨"LambdaShelf$Typer", "countSide", "(I)V"⟩, 13), (⟨"LambdaShelf$Typer", "release", "(II)I"⟩, 13), (⟨"LambdaShelf$Typer", "tellType", "(I)V"⟩, 13), (⟨"LambdaShelf", "allNodes", "()I"⟩, 13), (⟨"LambdaShelfModel", "put", "(I)V"⟩, 49), (⟨"LambdaShelfModel", "readTerm", "()V"⟩, 49), (⟨"LambdaShelfModel", "level", "(I)V"⟩, 49), (⟨"LambdaShelfModel", "next", "()V"⟩, 49)]
theorem lw_r5 : ∀ q ∈ lw_privs_5, lw_okq q := List.forall_mem_cons.mpr ⟨lw_p64, List.forall_mem_cons.mpr ⟨lw_p65, List.forall_mem_cons.mpr ⟨lw_p66, List.forall_mem_cons.mpr ⟨lw_p67, List.forall_mem_cons.mpr ⟨lw_p68, List.forall_mem_cons.mpr ⟨lw_p69, List.forall_mem_cons.mpr ⟨lw_p70, List.forall_mem_cons.mpr ⟨lw_p71, List.forall_mem_cons.mpr ⟨lw_p72, List.forall_mem_cons.mpr ⟨lw_p73, List.forall_mem_cons.mpr ⟨lw_p74, List.forall_mem_cons.mpr ⟨lw_p75, List.forall_mem_cons.mpr ⟨lw_p76, List.forall_mem_cons.mpr ⟨lw_p77, List.forall_mem_cons.mpr ⟨lw_p78, List.forall_mem_cons.mpr ⟨lw_p79, fun _ h => absurd h List.not_mem_nil⟩⟩⟩⟩⟩⟩⟩⟩⟩⟩⟩⟩⟩⟩⟩⟩
theorem lw_p80 : lw_okq (⟨"LambdaShelfModel", "look", "()I"⟩, 49) := ⟨⟨by decide +kernel, by decide +kernel⟩, List.mem_of_getElem? (i := 951) (by decide +kernel), List.mem_of_getElem? (i := 1138) (by decide +kernel), List.mem_of_getElem? (i := 1139) (by decide +kernel)⟩
theorem lw_p81 : lw_okq (⟨"LambdaShelfModel", "fails", "(II)V"⟩, 49) := ⟨⟨by decide +kernel, by decide +kernel⟩, List.mem_of_getElem? (i := 951) (by decide +kernel), List.mem_of_getElem? (i := 1146) (by decide +kernel), List.mem_of_getElem? (i := 1147) (by decide +kernel)⟩
theorem lw_p82 : lw_okq (⟨"LambdaShelfModel", "readName", "()V"⟩, 49) := ⟨⟨by decide +kernel, by decide +kernel⟩, List.mem_of_getElem? (i := 951) (by decide +kernel), List.mem_of_getElem? (i := 1157) (by decide +kernel), List.mem_of_getElem? (i := 1158) (by decide +kernel)⟩
theorem lw_p83 : lw_okq (⟨"LambdaShelfModel", "part", "()V"⟩, 49) := ⟨⟨by decide +kernel, by decide +kernel⟩, List.mem_of_getElem? (i := 951) (by decide +kernel), List.mem_of_getElem? (i := 1161) (by decide +kernel), List.mem_of_getElem? (i := 1162) (by decide +kernel)⟩
theorem lw_p84 : lw_okq (⟨"LambdaShelfModel", "lay", "(I)V"⟩, 49) := ⟨⟨by decide +kernel, by decide +kernel⟩, List.mem_of_getElem? (i := 951) (by decide +kernel), List.mem_of_getElem? (i := 1165) (by decide +kernel), List.mem_of_getElem? (i := 1166) (by decide +kernel)⟩
theorem lw_p85 : lw_okq (⟨"LambdaShelfModel", "readNumber", "()V"⟩, 49) := ⟨⟨by decide +kernel, by decide +kernel⟩, List.mem_of_getElem? (i := 951) (by decide +kernel), List.mem_of_getElem? (i := 1169) (by decide +kernel), List.mem_of_getElem? (i := 1170) (by decide +kernel)⟩
theorem lw_p86 : lw_okq (⟨"LambdaShelfModel", "isSign", "(I)Z"⟩, 49) := ⟨⟨by decide +kernel, by decide +kernel⟩, List.mem_of_getElem? (i := 951) (by decide +kernel), List.mem_of_getElem? (i := 1173) (by decide +kernel), List.mem_of_getElem? (i := 1174) (by decide +kernel)⟩
theorem lw_p87 : lw_okq (⟨"LambdaShelfModel", "readLambda", "()V"⟩, 49) := ⟨⟨by decide +kernel, by decide +kernel⟩, List.mem_of_getElem? (i := 951) (by decide +kernel), List.mem_of_getElem? (i := 1177) (by decide +kernel), List.mem_of_getElem? (i := 1178) (by decide +kernel)⟩
theorem lw_p88 : lw_okq (⟨"LambdaShelfModel", "closes", "()V"⟩, 49) := ⟨⟨by decide +kernel, by decide +kernel⟩, List.mem_of_getElem? (i := 951) (by decide +kernel), List.mem_of_getElem? (i := 1181) (by decide +kernel), List.mem_of_getElem? (i := 1182) (by decide +kernel)⟩
theorem lw_p89 : lw_okq (⟨"LambdaShelfModel", "keep", "(I)V"⟩, 49) := ⟨⟨by decide +kernel, by decide +kernel⟩, List.mem_of_getElem? (i := 951) (by decide +kernel), List.mem_of_getElem? (i := 1185) (by decide +kernel), List.mem_of_getElem? (i := 1186) (by decide +kernel)⟩
theorem lw_p90 : lw_okq (⟨"LambdaShelfModel", "isTerm", "(I)Z"⟩, 49) := ⟨⟨by decide +kernel, by decide +kernel⟩, List.mem_of_getElem? (i := 951) (by decide +kernel), List.mem_of_getElem? (i := 1197) (by decide +kernel), List.mem_of_getElem? (i := 1198) (by decide +kernel)⟩
theorem lw_p91 : lw_okq (⟨"LambdaShelfModel", "take", "(I)V"⟩, 49) := ⟨⟨by decide +kernel, by decide +kernel⟩, List.mem_of_getElem? (i := 951) (by decide +kernel), List.mem_of_getElem? (i := 1209) (by decide +kernel), List.mem_of_getElem? (i := 1210) (by decide +kernel)⟩
theorem lw_p92 : lw_okq (⟨"LambdaShelfModel", "sayTerm", "()V"⟩, 49) := ⟨⟨by decide +kernel, by decide +kernel⟩, List.mem_of_getElem? (i := 951) (by decide +kernel), List.mem_of_getElem? (i := 1213) (by decide +kernel), List.mem_of_getElem? (i := 1214) (by decide +kernel)⟩
theorem lw_p93 : lw_okq (⟨"LambdaShelfModel", "endOf", "(I)I"⟩, 49) := ⟨⟨by decide +kernel, by decide +kernel⟩, List.mem_of_getElem? (i := 951) (by decide +kernel), List.mem_of_getElem? (i := 1217) (by decide +kernel), List.mem_of_getElem? (i := 1218) (by decide +kernel)⟩
theorem lw_p94 : lw_okq (⟨"LambdaShelfModel", "depths", "(I)V"⟩, 49) := ⟨⟨by decide +kernel, by decide +kernel⟩, List.mem_of_getElem? (i := 951) (by decide +kernel), List.mem_of_getElem? (i := 1221) (by decide +kernel), List.mem_of_getElem? (i := 1222) (by decide +kernel)⟩
theorem lw_p95 : lw_okq (⟨"LambdaShelfModel", "say", "(I)V"⟩, 49) := ⟨⟨by decide +kernel, by decide +kernel⟩, List.mem_of_getElem? (i := 951) (by decide +kernel), List.mem_of_getElem? (i := 1225) (by decide +kernel), List.mem_of_getElem? (i := 1226) (by decide +kernel)⟩
def lw_privs_6 : List (MethodName × Nat) := [(⟨"LambdaShelfModel", "look", "()I"⟩, 49), (⟨"LambdaShelfModel", "fails", "(II)V"⟩, 49), (⟨"LambdaShelfModel", "readName", "()V"⟩, 49), (⟨"LambdaShelfModel", "part", "()V"⟩, 49), (⟨"LambdaShelfModel", "lay", "(I)V"⟩, 49), (⟨"LambdaShelfModel", "readNumber", "()V"⟩, 49), (⟨"LambdaShelfModel", "isSign", "(I)Z"⟩, 49), (⟨"LambdaShelfModel", "readLambda", "()V"⟩, 49), (⟨"LambdaShelfModel", "closes", "()V"⟩, 49), (⟨"LambdaShelfModel", "keep", "(I)V"⟩, 49), (⟨"LambdaShelfModel", "isTerm", "(I)Z"⟩, 49), (⟨"LambdaShelfModel", "take", "(I)V"⟩, 49), (⟨"LambdaShelfModel", "sayTerm", "()V"⟩, 49), (⟨"LambdaShelfModel", "endOf", "(I)I"⟩, 49), (⟨"LambdaShelfModel", "depths", "(I)V"⟩, 49), (⟨"LambdaShelfModel", "say", "(I)V"⟩, 49)]
theorem lw_r6 : ∀ q ∈ lw_privs_6, lw_okq q := List.forall_mem_cons.mpr ⟨lw_p80, List.forall_mem_cons.mpr ⟨lw_p81, List.forall_mem_cons.mpr ⟨lw_p82, List.forall_mem_cons.mpr ⟨lw_p83, List.forall_mem_cons.mpr ⟨lw_p84, List.forall_mem_cons.mpr ⟨lw_p85, List.forall_mem_cons.mpr ⟨lw_p86, List.forall_mem_cons.mpr ⟨lw_p87, List.forall_mem_cons.mpr ⟨lw_p88, List.forall_mem_cons.mpr ⟨lw_p89, List.forall_mem_cons.mpr ⟨lw_p90, List.forall_mem_cons.mpr ⟨lw_p91, List.forall_mem_cons.mpr ⟨lw_p92, List.forall_mem_cons.mpr ⟨lw_p93, List.forall_mem_cons.mpr ⟨lw_p94, List.forall_mem_cons.mpr ⟨lw_p95, fun _ h => absurd h List.not_mem_nil⟩⟩⟩⟩⟩⟩⟩⟩⟩⟩⟩⟩⟩⟩⟩⟩
theorem lw_p96 : lw_okq (⟨"LambdaShelfModel", "sayName", "(I)V"⟩, 49) := ⟨⟨by decide +kernel, by decide +kernel⟩, List.mem_of_getElem? (i := 951) (by decide +kernel), List.mem_of_getElem? (i := 1229) (by decide +kernel), List.mem_of_getElem? (i := 1230) (by decide +kernel)⟩
theorem lw_p97 : lw_okq (⟨"LambdaShelfModel", "stepped", "(I)I"⟩, 49) := ⟨⟨by decide +kernel, by decide +kernel⟩, List.mem_of_getElem? (i := 951) (by decide +kernel), List.mem_of_getElem? (i := 1250) (by decide +kernel), List.mem_of_getElem? (i := 1251) (by decide +kernel)⟩
theorem lw_p98 : lw_okq (⟨"LambdaShelfModel", "nextRedex", "(I)I"⟩, 49) := ⟨⟨by decide +kernel, by decide +kernel⟩, List.mem_of_getElem? (i := 951) (by decide +kernel), List.mem_of_getElem? (i := 1254) (by decide +kernel), List.mem_of_getElem? (i := 1255) (by decide +kernel)⟩
theorem lw_p99 : lw_okq (⟨"LambdaShelfModel", "isRedex", "(I)Z"⟩, 49) := ⟨⟨by decide +kernel, by decide +kernel⟩, List.mem_of_getElem? (i := 951) (by decide +kernel), List.mem_of_getElem? (i := 1258) (by decide +kernel), List.mem_of_getElem? (i := 1259) (by decide +kernel)⟩
theorem lw_p100 : lw_okq (⟨"LambdaShelfModel", "isThin", "(I)Z"⟩, 49) := ⟨⟨by decide +kernel, by decide +kernel⟩, List.mem_of_getElem? (i := 951) (by decide +kernel), List.mem_of_getElem? (i := 1262) (by decide +kernel), List.mem_of_getElem? (i := 1263) (by decide +kernel)⟩
theorem lw_p101 : lw_okq (⟨"LambdaShelfModel", "has", "(I)Z"⟩, 49) := ⟨⟨by decide +kernel, by decide +kernel⟩, List.mem_of_getElem? (i := 951) (by decide +kernel), List.mem_of_getElem? (i := 1266) (by decide +kernel), List.mem_of_getElem? (i := 1267) (by decide +kernel)⟩
theorem lw_p102 : lw_okq (⟨"LambdaShelfModel", "hasWithin", "(I)Z"⟩, 49) := ⟨⟨by decide +kernel, by decide +kernel⟩, List.mem_of_getElem? (i := 951) (by decide +kernel), List.mem_of_getElem? (i := 1270) (by decide +kernel), List.mem_of_getElem? (i := 1271) (by decide +kernel)⟩
theorem lw_p103 : lw_okq (⟨"LambdaShelfModel", "addAll", "(II)V"⟩, 49) := ⟨⟨by decide +kernel, by decide +kernel⟩, List.mem_of_getElem? (i := 951) (by decide +kernel), List.mem_of_getElem? (i := 1274) (by decide +kernel), List.mem_of_getElem? (i := 1275) (by decide +kernel)⟩
theorem lw_p104 : lw_okq (⟨"LambdaShelfModel", "add", "(I)V"⟩, 49) := ⟨⟨by decide +kernel, by decide +kernel⟩, List.mem_of_getElem? (i := 951) (by decide +kernel), List.mem_of_getElem? (i := 1278) (by decide +kernel), List.mem_of_getElem? (i := 1279) (by decide +kernel)⟩
theorem lw_p105 : lw_okq (⟨"LambdaShelfModel", "becomes", "(II)V"⟩, 49) := ⟨⟨by decide +kernel, by decide +kernel⟩, List.mem_of_getElem? (i := 951) (by decide +kernel), List.mem_of_getElem? (i := 1282) (by decide +kernel), List.mem_of_getElem? (i := 1283) (by decide +kernel)⟩
theorem lw_p106 : lw_okq (⟨"LambdaShelfModel", "addMore", "(III)V"⟩, 49) := ⟨⟨by decide +kernel, by decide +kernel⟩, List.mem_of_getElem? (i := 951) (by decide +kernel), List.mem_of_getElem? (i := 1286) (by decide +kernel), List.mem_of_getElem? (i := 1287) (by decide +kernel)⟩
theorem lw_p107 : lw_okq (⟨"LambdaShelfModel", "beta", "(I)V"⟩, 49) := ⟨⟨by decide +kernel, by decide +kernel⟩, List.mem_of_getElem? (i := 951) (by decide +kernel), List.mem_of_getElem? (i := 1290) (by decide +kernel), List.mem_of_getElem? (i := 1291) (by decide +kernel)⟩
theorem lw_p108 : lw_okq (⟨"LambdaShelfModel", "count0", "()I"⟩, 49) := ⟨⟨by decide +kernel, by decide +kernel⟩, List.mem_of_getElem? (i := 951) (by decide +kernel), List.mem_of_getElem? (i := 1311) (by decide +kernel), List.mem_of_getElem? (i := 1312) (by decide +kernel)⟩
theorem lw_p109 : lw_okq (⟨"LambdaShelfModel", "isAbstracted", "()Z"⟩, 49) := ⟨⟨by decide +kernel, by decide +kernel⟩, List.mem_of_getElem? (i := 951) (by decide +kernel), List.mem_of_getElem? (i := 1319) (by decide +kernel), List.mem_of_getElem? (i := 1320) (by decide +kernel)⟩
theorem lw_p110 : lw_okq (⟨"LambdaShelfModel", "abstracts", "(I)V"⟩, 49) := ⟨⟨by decide +kernel, by decide +kernel⟩, List.mem_of_getElem? (i := 951) (by decide +kernel), List.mem_of_getElem? (i := 1323) (by decide +kernel), List.mem_of_getElem? (i := 1324) (by decide +kernel)⟩
theorem lw_p111 : lw_okq (⟨"LambdaShelfModel", "hasNaught", "(II)Z"⟩, 49) := ⟨⟨by decide +kernel, by decide +kernel⟩, List.mem_of_getElem? (i := 951) (by decide +kernel), List.mem_of_getElem? (i := 1327) (by decide +kernel), List.mem_of_getElem? (i := 1328) (by decide +kernel)⟩
def lw_privs_7 : List (MethodName × Nat) := [(⟨"LambdaShelfModel", "sayName", "(I)V"⟩, 49), (⟨"LambdaShelfModel", "stepped", "(I)I"⟩, 49), (⟨"LambdaShelfModel", "nextRedex", "(I)I"⟩, 49), (⟨"LambdaShelfModel", "isRedex", "(I)Z"⟩, 49), (⟨"LambdaShelfModel", "isThin", "(I)Z"⟩, 49), (⟨"LambdaShelfModel", "has", "(I)Z"⟩, 49), (⟨"LambdaShelfModel", "hasWithin", "(I)Z"⟩, 49), (⟨"LambdaShelfModel", "addAll", "(II)V"⟩, 49), (⟨"LambdaShelfModel", "add", "(I)V"⟩, 49), (⟨"LambdaShelfModel", "becomes", "(II)V"⟩, 49), (⟨"LambdaShelfModel", "addMore", "(III)V"⟩, 49), (⟨"LambdaShelfModel", "beta", "(I)V"⟩, 49), (⟨"LambdaShelfModel", "count0", "()I"⟩, 49), (⟨"LambdaShelfModel", "isAbstracted", "()Z"⟩, 49), (⟨"LambdaShelfModel", "abstracts", "(I)V"⟩, 49), (⟨"LambdaShelfModel", "hasNaught", "(II)Z"⟩, 49)]
theorem lw_r7 : ∀ q ∈ lw_privs_7, lw_okq q := List.forall_mem_cons.mpr ⟨lw_p96, List.forall_mem_cons.mpr ⟨lw_p97, List.forall_mem_cons.mpr ⟨lw_p98, List.forall_mem_cons.mpr ⟨lw_p99, List.forall_mem_cons.mpr ⟨lw_p100, List.forall_mem_cons.mpr ⟨lw_p101, List.forall_mem_cons.mpr ⟨lw_p102, List.forall_mem_cons.mpr ⟨lw_p103, List.forall_mem_cons.mpr ⟨lw_p104, List.forall_mem_cons.mpr ⟨lw_p105, List.forall_mem_cons.mpr ⟨lw_p106, List.forall_mem_cons.mpr ⟨lw_p107, List.forall_mem_cons.mpr ⟨lw_p108, List.forall_mem_cons.mpr ⟨lw_p109, List.forall_mem_cons.mpr ⟨lw_p110, List.forall_mem_cons.mpr ⟨lw_p111, fun _ h => absurd h List.not_mem_nil⟩⟩⟩⟩⟩⟩⟩⟩⟩⟩⟩⟩⟩⟩⟩⟩
theorem lw_p112 : lw_okq (⟨"LambdaShelfModel", "addLess", "(II)V"⟩, 49) := ⟨⟨by decide +kernel, by decide +kernel⟩, List.mem_of_getElem? (i := 951) (by decide +kernel), List.mem_of_getElem? (i := 1331) (by decide +kernel), List.mem_of_getElem? (i := 1332) (by decide +kernel)⟩
theorem lw_p113 : lw_okq (⟨"LambdaShelfModel", "numberNow", "()I"⟩, 49) := ⟨⟨by decide +kernel, by decide +kernel⟩, List.mem_of_getElem? (i := 951) (by decide +kernel), List.mem_of_getElem? (i := 1339) (by decide +kernel), List.mem_of_getElem? (i := 1340) (by decide +kernel)⟩
theorem lw_p114 : lw_okq (⟨"LambdaShelfModel", "infers", "()I"⟩, 49) := ⟨⟨by decide +kernel, by decide +kernel⟩, List.mem_of_getElem? (i := 951) (by decide +kernel), List.mem_of_getElem? (i := 1351) (by decide +kernel), List.mem_of_getElem? (i := 1352) (by decide +kernel)⟩
theorem lw_p115 : lw_okq (⟨"LambdaShelfModel", "any", "()I"⟩, 49) := ⟨⟨by decide +kernel, by decide +kernel⟩, List.mem_of_getElem? (i := 951) (by decide +kernel), List.mem_of_getElem? (i := 1355) (by decide +kernel), List.mem_of_getElem? (i := 1356) (by decide +kernel)⟩
theorem lw_p116 : lw_okq (⟨"LambdaShelfModel", "arrow", "(II)I"⟩, 49) := ⟨⟨by decide +kernel, by decide +kernel⟩, List.mem_of_getElem? (i := 951) (by decide +kernel), List.mem_of_getElem? (i := 1359) (by decide +kernel), List.mem_of_getElem? (i := 1360) (by decide +kernel)⟩
theorem lw_p117 : lw_okq (⟨"LambdaShelfModel", "unite", "(II)V"⟩, 49) := ⟨⟨by decide +kernel, by decide +kernel⟩, List.mem_of_getElem? (i := 951) (by decide +kernel), List.mem_of_getElem? (i := 1363) (by decide +kernel), List.mem_of_getElem? (i := 1364) (by decide +kernel)⟩
theorem lw_p118 : lw_okq (⟨"LambdaShelfModel", "root", "(I)I"⟩, 49) := ⟨⟨by decide +kernel, by decide +kernel⟩, List.mem_of_getElem? (i := 951) (by decide +kernel), List.mem_of_getElem? (i := 1367) (by decide +kernel), List.mem_of_getElem? (i := 1368) (by decide +kernel)⟩
theorem lw_p119 : lw_okq (⟨"LambdaShelfModel", "typeOfLetter", "(II)I"⟩, 49) := ⟨⟨by decide +kernel, by decide +kernel⟩, List.mem_of_getElem? (i := 951) (by decide +kernel), List.mem_of_getElem? (i := 1371) (by decide +kernel), List.mem_of_getElem? (i := 1372) (by decide +kernel)⟩
theorem lw_p120 : lw_okq (⟨"LambdaShelfModel", "isFinite", "()Z"⟩, 49) := ⟨⟨by decide +kernel, by decide +kernel⟩, List.mem_of_getElem? (i := 951) (by decide +kernel), List.mem_of_getElem? (i := 1375) (by decide +kernel), List.mem_of_getElem? (i := 1376) (by decide +kernel)⟩
theorem lw_p121 : lw_okq (⟨"LambdaShelfModel", "lays", "(I)I"⟩, 49) := ⟨⟨by decide +kernel, by decide +kernel⟩, List.mem_of_getElem? (i := 951) (by decide +kernel), List.mem_of_getElem? (i := 1379) (by decide +kernel), List.mem_of_getElem? (i := 1380) (by decide +kernel)⟩
def lw_privs_8 : List (MethodName × Nat) := [(⟨"LambdaShelfModel", "addLess", "(II)V"⟩, 49), (⟨"LambdaShelfModel", "numberNow", "()I"⟩, 49), (⟨"LambdaShelfModel", "infers", "()I"⟩, 49), (⟨"LambdaShelfModel", "any", "()I"⟩, 49), (⟨"LambdaShelfModel", "arrow", "(II)I"⟩, 49), (⟨"LambdaShelfModel", "unite", "(II)V"⟩, 49), (⟨"LambdaShelfModel", "root", "(I)I"⟩, 49), (⟨"LambdaShelfModel", "typeOfLetter", "(II)I"⟩, 49), (⟨"LambdaShelfModel", "isFinite", "()Z"⟩, 49), (⟨"LambdaShelfModel", "lays", "(I)I"⟩, 49)]
theorem lw_r8 : ∀ q ∈ lw_privs_8, lw_okq q := List.forall_mem_cons.mpr ⟨lw_p112, List.forall_mem_cons.mpr ⟨lw_p113, List.forall_mem_cons.mpr ⟨lw_p114, List.forall_mem_cons.mpr ⟨lw_p115, List.forall_mem_cons.mpr ⟨lw_p116, List.forall_mem_cons.mpr ⟨lw_p117, List.forall_mem_cons.mpr ⟨lw_p118, List.forall_mem_cons.mpr ⟨lw_p119, List.forall_mem_cons.mpr ⟨lw_p120, List.forall_mem_cons.mpr ⟨lw_p121, fun _ h => absurd h List.not_mem_nil⟩⟩⟩⟩⟩⟩⟩⟩⟩⟩
def lw_privs : List (MethodName × Nat) := lw_privs_1 ++ (lw_privs_2 ++ (lw_privs_3 ++ (lw_privs_4 ++ (lw_privs_5 ++ (lw_privs_6 ++ (lw_privs_7 ++ (lw_privs_8)))))))
def lw_tbl : List Cond := k2_sels lw_privs ++ tables_1
theorem lw_privs_ok : ∀ q ∈ lw_privs, lw_okq q := by
  show ∀ q ∈ lw_privs_1 ++ (lw_privs_2 ++ (lw_privs_3 ++ (lw_privs_4 ++ (lw_privs_5 ++ (lw_privs_6 ++ (lw_privs_7 ++ (lw_privs_8))))))), lw_okq q
  exact List.forall_mem_append.mpr ⟨lw_r1, List.forall_mem_append.mpr ⟨lw_r2, List.forall_mem_append.mpr ⟨lw_r3, List.forall_mem_append.mpr ⟨lw_r4, List.forall_mem_append.mpr ⟨lw_r5, List.forall_mem_append.mpr ⟨lw_r6, List.forall_mem_append.mpr ⟨lw_r7, lw_r8⟩⟩⟩⟩⟩⟩⟩
end
section
/-! THE PURE MACHINE, 1: values, locals, operand stacks. A pure reference is a place in a list of cells; retAddr stands for the law's script. pm_rv and its like: what the machine has for it, by the list ad of addresses. -/
abbrev pm_L : Type := List (Nat × Value)
def pm_get (lv : pm_L) (i : Nat) : Option Value := match lv with
  | [] => none
  | q :: r => if q.1 = i then some q.2 else pm_get r i
def pm_set (lv : pm_L) (i : Nat) (v : Value) : pm_L := (i, v) :: lv.filter (fun q => !(q.1 == i) && !(q.1 + 1 == i && q.2.category == 2))
def pm_set2 (lv : pm_L) (i : Nat) (v : Value) : pm_L := (i, v) :: lv.filter (fun q => !(q.1 == i) && (!(q.1 == i + 1) && !(q.1 + 1 == i && q.2.category == 2)))
def pm_rv (bS : Nat) (ad : List Nat) (v w : Value) : Prop := match v with
  | .ref k => ∃ a, ad[k]? = some a ∧ w = .ref a
  | .retAddr _ => w = .ref bS
  | .int x => w = .int x
  | .long x => w = .long x
  | .null => w = .null
  | _ => False
def pm_rs (bS : Nat) (ad : List Nat) : List Value → List Value → Prop
  | [], [] => True
  | v :: r, w :: r' => pm_rv bS ad v w ∧ pm_rs bS ad r r'
  | _, _ => False
def pm_rl (bS : Nat) (ad : List Nat) : pm_L → pm_L → Prop
  | [], [] => True
  | q :: r, q' :: r' => q.1 = q'.1 ∧ pm_rv bS ad q.2 q'.2 ∧ pm_rl bS ad r r'
  | _, _ => False
theorem pm_at_app {ad ad2 : List Nat} {k a : Nat} (h : ad[k]? = some a) : (ad ++ ad2)[k]? = some a := by
  rw [List.getElem?_append_left (List.getElem?_eq_some_iff.mp h).1]; exact h
theorem pm_rv.mono {bS : Nat} {ad ad2 : List Nat} {v w : Value} (h : pm_rv bS ad v w) : pm_rv bS (ad ++ ad2) v w := by
  cases v with
  | ref k => obtain ⟨a, h1, h2⟩ := h; exact ⟨a, pm_at_app h1, h2⟩
  | _ => exact h
theorem pm_rs.mono {bS : Nat} {ad ad2 : List Nat} : ∀ {st st' : List Value}, pm_rs bS ad st st' → pm_rs bS (ad ++ ad2) st st'
  | [], [], _ => trivial
  | _ :: _, _ :: _, h => ⟨h.1.mono, pm_rs.mono h.2⟩
  | [], _ :: _, h => h.elim
  | _ :: _, [], h => h.elim
theorem pm_rl.mono {bS : Nat} {ad ad2 : List Nat} : ∀ {st st' : pm_L}, pm_rl bS ad st st' → pm_rl bS (ad ++ ad2) st st'
  | [], [], _ => trivial
  | _ :: _, _ :: _, h => ⟨h.1, h.2.1.mono, pm_rl.mono h.2.2⟩
  | [], _ :: _, h => h.elim
  | _ :: _, [], h => h.elim
theorem pm_rv.cat {bS : Nat} {ad : List Nat} {v w : Value} (h : pm_rv bS ad v w) : w.category = v.category := by
  cases v with
  | ref k => obtain ⟨a, -, h2⟩ := h; rw [h2]; rfl
  | retAddr n => rw [show w = .ref bS from h]; rfl
  | int x => rw [show w = .int x from h]
  | long x => rw [show w = .long x from h]
  | null => rw [show w = .null from h]
  | float x => exact h.elim
  | double x => exact h.elim
theorem pm_rs_cons {bS : Nat} {ad : List Nat} {v : Value} {r stA : List Value} (h : pm_rs bS ad (v :: r) stA) : ∃ w r', stA = w :: r' ∧ pm_rv bS ad v w ∧ pm_rs bS ad r r' := by
  cases stA with
  | nil => exact h.elim
  | cons w r' => exact ⟨w, r', rfl, h.1, h.2⟩
theorem pm_rs_nil {bS : Nat} {ad : List Nat} {stA : List Value} (h : pm_rs bS ad [] stA) : stA = [] := by
  cases stA with
  | nil => rfl
  | cons w r' => exact h.elim
theorem pm_rs_len {bS : Nat} {ad : List Nat} : ∀ {st st' : List Value}, pm_rs bS ad st st' → st'.length = st.length
  | [], [], _ => rfl
  | _ :: _, _ :: _, h => by simp [pm_rs_len h.2]
  | [], _ :: _, h => h.elim
  | _ :: _, [], h => h.elim
theorem pm_rs_app {bS : Nat} {ad : List Nat} : ∀ {a a' b b' : List Value}, pm_rs bS ad a a' → pm_rs bS ad b b' → pm_rs bS ad (a ++ b) (a' ++ b')
  | [], [], _, _, _, h => h
  | _ :: _, _ :: _, _, _, h, h2 => ⟨h.1, pm_rs_app h.2 h2⟩
  | [], _ :: _, _, _, h, _ => h.elim
  | _ :: _, [], _, _, h, _ => h.elim
theorem pm_rs_rev {bS : Nat} {ad : List Nat} : ∀ {a a' : List Value}, pm_rs bS ad a a' → pm_rs bS ad a.reverse a'.reverse
  | [], [], _ => trivial
  | v :: r, w :: r', h => by
    rw [List.reverse_cons, List.reverse_cons]
    exact pm_rs_app (pm_rs_rev h.2) ⟨h.1, trivial⟩
  | [], _ :: _, h => h.elim
  | _ :: _, [], h => h.elim
theorem pm_rs_split {bS : Nat} {ad : List Nat} : ∀ {a b c : List Value}, pm_rs bS ad (a ++ b) c → ∃ a' b', c = a' ++ b' ∧ pm_rs bS ad a a' ∧ pm_rs bS ad b b'
  | [], b, c, h => ⟨[], c, rfl, trivial, h⟩
  | v :: r, b, c, h => by
    obtain ⟨w, r', rfl, h1, h2⟩ := pm_rs_cons h
    obtain ⟨a', b', rfl, h3, h4⟩ := pm_rs_split h2
    exact ⟨w :: a', b', rfl, ⟨h1, h3⟩, h4⟩
theorem pm_rs_cats {bS : Nat} {ad : List Nat} : ∀ {a a' : List Value}, pm_rs bS ad a a' → (a'.map fun v => v.category) = a.map fun v => v.category
  | [], [], _ => rfl
  | v :: r, w :: r', h => by simp [pm_rs_cats h.2, h.1.cat]
  | [], _ :: _, h => h.elim
  | _ :: _, [], h => h.elim
theorem pm_rl.get {bS : Nat} {ad : List Nat} {i : Nat} {v : Value} : ∀ {lv lvA : pm_L}, pm_rl bS ad lv lvA → pm_get lv i = some v → ∃ w, (i, w) ∈ lvA ∧ pm_rv bS ad v w
  | [], [], _, h => by cases h
  | q :: r, q' :: r', hr, h => by
    unfold pm_get at h
    split at h
    · rename_i hq
      cases h
      refine ⟨q'.2, ?_, hr.2.1⟩
      rw [← hq, hr.1]
      exact List.mem_cons_self
    · obtain ⟨w, h1, h2⟩ := pm_rl.get hr.2.2 h
      exact ⟨w, List.mem_cons_of_mem _ h1, h2⟩
  | [], _ :: _, h, _ => h.elim
  | _ :: _, [], h, _ => h.elim
theorem pm_rl.filt {bS : Nat} {ad : List Nat} {f : Nat × Value → Bool} (hf : ∀ q q' : Nat × Value, q.1 = q'.1 → q'.2.category = q.2.category → f q' = f q) : ∀ {lv lvA : pm_L}, pm_rl bS ad lv lvA → pm_rl bS ad (lv.filter f) (lvA.filter f)
  | [], [], _ => trivial
  | q :: r, q' :: r', hr => by
    have h1 := hf q q' hr.1 hr.2.1.cat
    have h2 := pm_rl.filt hf hr.2.2
    rw [List.filter_cons, List.filter_cons, h1]
    split
    · exact ⟨hr.1, hr.2.1, h2⟩
    · exact h2
  | [], _ :: _, h => h.elim
  | _ :: _, [], h => h.elim
theorem pm_rl.set {bS : Nat} {ad : List Nat} {i : Nat} {v w : Value} {lv lvA : pm_L} (h : pm_rl bS ad lv lvA) (hv : pm_rv bS ad v w) : pm_rl bS ad (pm_set lv i v) (pm_set lvA i w) :=
  ⟨rfl, hv, h.filt (fun q q' h1 h2 => by simp only [h1, h2])⟩
theorem pm_rl.set2 {bS : Nat} {ad : List Nat} {i : Nat} {v w : Value} {lv lvA : pm_L} (h : pm_rl bS ad lv lvA) (hv : pm_rv bS ad v w) : pm_rl bS ad (pm_set2 lv i v) (pm_set2 lvA i w) :=
  ⟨rfl, hv, h.filt (fun q q' h1 h2 => by simp only [h1, h2])⟩
/-! what an instruction does to locals and stack alone -/
def pm_i1 (st : List Value) : Option (Int32 × List Value) := match st with
  | .int x :: r => some (x, r)
  | _ => none
def pm_l1 (st : List Value) : Option (Int64 × List Value) := match st with
  | .long x :: r => some (x, r)
  | _ => none
def pm_c1 (st : List Value) : Option (Value × List Value) := match st with
  | v :: r => if v.category = 1 then some (v, r) else none
  | _ => none
theorem pm_i1_ok {st r : List Value} {x : Int32} (h : pm_i1 st = some (x, r)) : st = .int x :: r := by
  unfold pm_i1 at h; split at h
  · cases h; rfl
  · cases h
theorem pm_l1_ok {st r : List Value} {x : Int64} (h : pm_l1 st = some (x, r)) : st = .long x :: r := by
  unfold pm_l1 at h; split at h
  · cases h; rfl
  · cases h
theorem pm_c1_ok {st r : List Value} {v : Value} (h : pm_c1 st = some (v, r)) : st = v :: r ∧ v.category = 1 := by
  unfold pm_c1 at h; split at h
  · split at h
    · rename_i hc; cases h; exact ⟨rfl, hc⟩
    · cases h
  · cases h
def pm_ldi (lv : pm_L) (i : Nat) (st : List Value) : Option (pm_L × List Value) := match pm_get lv i with
  | some (.int x) => some (lv, .int x :: st)
  | _ => none
def pm_ldl (lv : pm_L) (i : Nat) (st : List Value) : Option (pm_L × List Value) := match pm_get lv i with
  | some (.long x) => some (lv, .long x :: st)
  | _ => none
def pm_lda (lv : pm_L) (i : Nat) (st : List Value) : Option (pm_L × List Value) := match pm_get lv i with
  | some (.ref x) => some (lv, .ref x :: st)
  | some .null => some (lv, .null :: st)
  | some (.retAddr x) => some (lv, .retAddr x :: st)
  | _ => none
def pm_sti (nL : Nat) (lv : pm_L) (i : Nat) (st : List Value) : Option (pm_L × List Value) := match st with
  | .int x :: r => if i < nL then some (pm_set lv i (.int x), r) else none
  | _ => none
def pm_stl (nL : Nat) (lv : pm_L) (i : Nat) (st : List Value) : Option (pm_L × List Value) := match st with
  | .long x :: r => if i + 1 < nL then some (pm_set2 lv i (.long x), r) else none
  | _ => none
def pm_sta (nL : Nat) (lv : pm_L) (i : Nat) (st : List Value) : Option (pm_L × List Value) := match st with
  | .ref x :: r => if i < nL then some (pm_set lv i (.ref x), r) else none
  | .null :: r => if i < nL then some (pm_set lv i .null, r) else none
  | _ => none
def pm_inc (nL : Nat) (lv : pm_L) (i : Nat) (n : Int) (st : List Value) : Option (pm_L × List Value) := match pm_get lv i with
  | some (.int x) => if i < nL then some (pm_set lv i (.int (x + Int32.ofInt n)), st) else none
  | _ => none
def pm_bi (f : Int32 → Int32 → Int32) (lv : pm_L) (st : List Value) : Option (pm_L × List Value) := match st with
  | .int y :: .int x :: r => some (lv, .int (f x y) :: r)
  | _ => none
def pm_bd (f : Int32 → Int32 → Int32) (lv : pm_L) (st : List Value) : Option (pm_L × List Value) := match st with
  | .int y :: .int x :: r => if y = 0 then none else some (lv, .int (f x y) :: r)
  | _ => none
def pm_ui (f : Int32 → Value) (lv : pm_L) (st : List Value) : Option (pm_L × List Value) := match st with
  | .int x :: r => some (lv, f x :: r)
  | _ => none
def pm_bl (f : Int64 → Int64 → Value) (lv : pm_L) (st : List Value) : Option (pm_L × List Value) := match st with
  | .long y :: .long x :: r => some (lv, f x y :: r)
  | _ => none
def pm_ul (f : Int64 → Value) (lv : pm_L) (st : List Value) : Option (pm_L × List Value) := match st with
  | .long x :: r => some (lv, f x :: r)
  | _ => none
def pm_dup (lv : pm_L) (st : List Value) : Option (pm_L × List Value) := match st with
  | v :: r => if v.category = 1 then some (lv, v :: v :: r) else none
  | _ => none
def pm_pop (lv : pm_L) (st : List Value) : Option (pm_L × List Value) := match st with
  | v :: r => if v.category = 1 then some (lv, r) else none
  | _ => none
def pm_dx1 (lv : pm_L) (st : List Value) : Option (pm_L × List Value) := match st with
  | v :: w :: r => if v.category = 1 ∧ w.category = 1 then some (lv, v :: w :: v :: r) else none
  | _ => none
def pm_dx2 (lv : pm_L) (st : List Value) : Option (pm_L × List Value) := match st with
  | v :: w :: u :: r => if v.category = 1 ∧ w.category = 1 ∧ u.category = 1 then some (lv, v :: w :: u :: v :: r) else none
  | _ => none
def pm_du2 (lv : pm_L) (st : List Value) : Option (pm_L × List Value) := match st with
  | v :: w :: r => if v.category = 1 ∧ w.category = 1 then some (lv, v :: w :: v :: w :: r) else none
  | _ => none
def pm_len (i : Instr) : Nat := match i with
  | .bipush _ | .iload _ | .lload _ | .aload _ | .istore _ | .lstore _ | .astore _ | .newarray _ | .ldc _ => 2
  | .sipush _ | .iinc _ _ | .ldc2_w _ | .goto _ | .ifCond _ _ | .if_icmp _ _ | .ifnull _ | .ifnonnull _ | .getfield _ | .putfield _ | .new _ | .anewarray _ | .invokespecial _ | .invokestatic _ | .invokevirtual _ => 3
  | _ => 1
def pm_sim (nL : Nat) (i : Instr) (lv : pm_L) (st : List Value) : Option (pm_L × List Value) := match i with
  | .iconst n => some (lv, .int (Int32.ofInt n) :: st)
  | .bipush n => some (lv, .int (Int8.ofInt n).toInt32 :: st)
  | .sipush n => some (lv, .int (Int16.ofInt n).toInt32 :: st)
  | .lconst n => some (lv, .long (Int64.ofNat n.val) :: st)
  | .aconst_null => some (lv, .null :: st)
  | .iload_n k => pm_ldi lv k.val st
  | .iload k => pm_ldi lv k st
  | .lload_n k => pm_ldl lv k.val st
  | .lload k => pm_ldl lv k st
  | .aload_n k => pm_lda lv k.val st
  | .aload k => pm_lda lv k st
  | .istore_n k => pm_sti nL lv k.val st
  | .istore k => pm_sti nL lv k st
  | .lstore_n k => pm_stl nL lv k.val st
  | .lstore k => pm_stl nL lv k st
  | .astore_n k => pm_sta nL lv k.val st
  | .astore k => pm_sta nL lv k st
  | .iinc k n => pm_inc nL lv k n st
  | .iadd => pm_bi (fun x y => x + y) lv st
  | .isub => pm_bi (fun x y => x - y) lv st
  | .imul => pm_bi (fun x y => x * y) lv st
  | .iand => pm_bi (fun x y => x &&& y) lv st
  | .ior => pm_bi (fun x y => x ||| y) lv st
  | .ishl => pm_bi (fun x y => x <<< (y &&& 31)) lv st
  | .ishr => pm_bi (fun x y => x >>> (y &&& 31)) lv st
  | .iushr => pm_bi (fun x y => (x.toUInt32 >>> (y.toUInt32 &&& Int32.toUInt32 31)).toInt32) lv st
  | .idiv => pm_bd (fun x y => x / y) lv st
  | .irem => pm_bd (fun x y => x - x / y * y) lv st
  | .ineg => pm_ui (fun x => .int (-x)) lv st
  | .i2l => pm_ui (fun x => .long x.toInt64) lv st
  | .i2c => pm_ui (fun x => .int (x.toUInt32 % 65536).toInt32) lv st
  | .l2i => pm_ul (fun x => .int x.toInt32) lv st
  | .ladd => pm_bl (fun x y => .long (x + y)) lv st
  | .lsub => pm_bl (fun x y => .long (x - y)) lv st
  | .lmul => pm_bl (fun x y => .long (x * y)) lv st
  | .lcmp => pm_bl (fun x y => .int (lg_cmp x y)) lv st
  | .dup => pm_dup lv st
  | .pop => pm_pop lv st
  | .dup_x1 => pm_dx1 lv st
  | .dup_x2 => pm_dx2 lv st
  | .dup2 => pm_du2 lv st
  | _ => none
theorem pm_ldi_ok {lv lv2 : pm_L} {i : Nat} {st st2 : List Value} (h : pm_ldi lv i st = some (lv2, st2)) : ∃ x, pm_get lv i = some (.int x) ∧ lv2 = lv ∧ st2 = .int x :: st := by
  unfold pm_ldi at h; split at h
  · rename_i x hx; cases h; exact ⟨x, hx, rfl, rfl⟩
  · cases h
theorem pm_ldl_ok {lv lv2 : pm_L} {i : Nat} {st st2 : List Value} (h : pm_ldl lv i st = some (lv2, st2)) : ∃ x, pm_get lv i = some (.long x) ∧ lv2 = lv ∧ st2 = .long x :: st := by
  unfold pm_ldl at h; split at h
  · rename_i x hx; cases h; exact ⟨x, hx, rfl, rfl⟩
  · cases h
theorem pm_lda_ok {lv lv2 : pm_L} {i : Nat} {st st2 : List Value} (h : pm_lda lv i st = some (lv2, st2)) : ∃ v, pm_get lv i = some v ∧ lv2 = lv ∧ st2 = v :: st ∧ ((∃ x, v = .ref x) ∨ v = .null ∨ ∃ x, v = .retAddr x) := by
  unfold pm_lda at h; split at h
  · rename_i x hx; cases h; exact ⟨_, hx, rfl, rfl, Or.inl ⟨_, rfl⟩⟩
  · rename_i hx; cases h; exact ⟨_, hx, rfl, rfl, Or.inr (Or.inl rfl)⟩
  · rename_i x hx; cases h; exact ⟨_, hx, rfl, rfl, Or.inr (Or.inr ⟨_, rfl⟩)⟩
  · cases h
theorem pm_sti_ok {nL : Nat} {lv lv2 : pm_L} {i : Nat} {st st2 : List Value} (h : pm_sti nL lv i st = some (lv2, st2)) : ∃ x r, st = .int x :: r ∧ i < nL ∧ lv2 = pm_set lv i (.int x) ∧ st2 = r := by
  unfold pm_sti at h; split at h
  · split at h
    · rename_i hn; cases h; exact ⟨_, _, rfl, hn, rfl, rfl⟩
    · cases h
  · cases h
theorem pm_stl_ok {nL : Nat} {lv lv2 : pm_L} {i : Nat} {st st2 : List Value} (h : pm_stl nL lv i st = some (lv2, st2)) : ∃ x r, st = .long x :: r ∧ i + 1 < nL ∧ lv2 = pm_set2 lv i (.long x) ∧ st2 = r := by
  unfold pm_stl at h; split at h
  · split at h
    · rename_i hn; cases h; exact ⟨_, _, rfl, hn, rfl, rfl⟩
    · cases h
  · cases h
theorem pm_sta_ok {nL : Nat} {lv lv2 : pm_L} {i : Nat} {st st2 : List Value} (h : pm_sta nL lv i st = some (lv2, st2)) : ∃ v r, st = v :: r ∧ i < nL ∧ lv2 = pm_set lv i v ∧ st2 = r ∧ ((∃ x, v = .ref x) ∨ v = .null) := by
  unfold pm_sta at h; split at h
  · split at h
    · rename_i hn; cases h; exact ⟨_, _, rfl, hn, rfl, rfl, Or.inl ⟨_, rfl⟩⟩
    · cases h
  · split at h
    · rename_i hn; cases h; exact ⟨_, _, rfl, hn, rfl, rfl, Or.inr rfl⟩
    · cases h
  · cases h
theorem pm_inc_ok {nL : Nat} {lv lv2 : pm_L} {i : Nat} {n : Int} {st st2 : List Value} (h : pm_inc nL lv i n st = some (lv2, st2)) : ∃ x, pm_get lv i = some (.int x) ∧ i < nL ∧ lv2 = pm_set lv i (.int (x + Int32.ofInt n)) ∧ st2 = st := by
  unfold pm_inc at h; split at h
  · rename_i x hx
    split at h
    · rename_i hn; cases h; exact ⟨x, hx, hn, rfl, rfl⟩
    · cases h
  · cases h
theorem pm_bi_ok {f : Int32 → Int32 → Int32} {lv lv2 : pm_L} {st st2 : List Value} (h : pm_bi f lv st = some (lv2, st2)) : ∃ x y r, st = .int y :: .int x :: r ∧ lv2 = lv ∧ st2 = .int (f x y) :: r := by
  unfold pm_bi at h; split at h
  · cases h; exact ⟨_, _, _, rfl, rfl, rfl⟩
  · cases h
theorem pm_bd_ok {f : Int32 → Int32 → Int32} {lv lv2 : pm_L} {st st2 : List Value} (h : pm_bd f lv st = some (lv2, st2)) : ∃ x y r, st = .int y :: .int x :: r ∧ ¬ y = 0 ∧ lv2 = lv ∧ st2 = .int (f x y) :: r := by
  unfold pm_bd at h; split at h
  · split at h
    · cases h
    · rename_i hn; cases h; exact ⟨_, _, _, rfl, hn, rfl, rfl⟩
  · cases h
theorem pm_ui_ok {f : Int32 → Value} {lv lv2 : pm_L} {st st2 : List Value} (h : pm_ui f lv st = some (lv2, st2)) : ∃ x r, st = .int x :: r ∧ lv2 = lv ∧ st2 = f x :: r := by
  unfold pm_ui at h; split at h
  · cases h; exact ⟨_, _, rfl, rfl, rfl⟩
  · cases h
theorem pm_ul_ok {f : Int64 → Value} {lv lv2 : pm_L} {st st2 : List Value} (h : pm_ul f lv st = some (lv2, st2)) : ∃ x r, st = .long x :: r ∧ lv2 = lv ∧ st2 = f x :: r := by
  unfold pm_ul at h; split at h
  · cases h; exact ⟨_, _, rfl, rfl, rfl⟩
  · cases h
theorem pm_bl_ok {f : Int64 → Int64 → Value} {lv lv2 : pm_L} {st st2 : List Value} (h : pm_bl f lv st = some (lv2, st2)) : ∃ x y r, st = .long y :: .long x :: r ∧ lv2 = lv ∧ st2 = f x y :: r := by
  unfold pm_bl at h; split at h
  · cases h; exact ⟨_, _, _, rfl, rfl, rfl⟩
  · cases h
theorem pm_rs_i {bS : Nat} {ad : List Nat} {x : Int32} {r stA : List Value} (h : pm_rs bS ad (.int x :: r) stA) : ∃ r', stA = .int x :: r' ∧ pm_rs bS ad r r' := by
  obtain ⟨w, r', rfl, hw, hr⟩ := pm_rs_cons h
  exact ⟨r', by rw [show w = .int x from hw], hr⟩
theorem pm_rs_l {bS : Nat} {ad : List Nat} {x : Int64} {r stA : List Value} (h : pm_rs bS ad (.long x :: r) stA) : ∃ r', stA = .long x :: r' ∧ pm_rs bS ad r r' := by
  obtain ⟨w, r', rfl, hw, hr⟩ := pm_rs_cons h
  exact ⟨r', by rw [show w = .long x from hw], hr⟩
theorem pm_rs_n {bS : Nat} {ad : List Nat} {r stA : List Value} (h : pm_rs bS ad (.null :: r) stA) : ∃ r', stA = .null :: r' ∧ pm_rs bS ad r r' := by
  obtain ⟨w, r', rfl, hw, hr⟩ := pm_rs_cons h
  exact ⟨r', by rw [show w = .null from hw], hr⟩
theorem pm_rs_r {bS : Nat} {ad : List Nat} {k : Nat} {r stA : List Value} (h : pm_rs bS ad (.ref k :: r) stA) : ∃ a r', ad[k]? = some a ∧ stA = .ref a :: r' ∧ pm_rs bS ad r r' := by
  obtain ⟨w, r', rfl, ⟨a, ha, rfl⟩, hr⟩ := pm_rs_cons h
  exact ⟨a, r', ha, rfl, hr⟩
theorem pm_rs_s {bS : Nat} {ad : List Nat} {k : Nat} {r stA : List Value} (h : pm_rs bS ad (.retAddr k :: r) stA) : ∃ r', stA = .ref bS :: r' ∧ pm_rs bS ad r r' := by
  obtain ⟨w, r', rfl, hw, hr⟩ := pm_rs_cons h
  exact ⟨r', by rw [show w = .ref bS from hw], hr⟩
section PMSIM
variable {p : Program} {l : Launch} {e : Env} {R : Room} {s : State} {m : MethodId} {args : Array Value} {below : List Frame} {meth : Method} {c : Code} {H : Heap} {locs : List Loc} {cells slots : Nat} {Q : State → Prop}
variable {cc : ByteArray} {pc nL : Nat} {ls : Array Slot} {bS : Nat} {ad : List Nat}
set_option maxHeartbeats 4000000 in
theorem pm_sim_ok (hx : p.tables.exec = Jvm.exec) (hb : c.code = cc) {i : Instr} {lv lv2 lvA : pm_L} {st st2 stA : List Value} (h : pm_sim nL i lv st = some (lv2, st2)) (hd : decode cc pc = .ok (i, pm_len i)) (hl : lv_has ls nL lvA) (hv : pm_rl bS ad lv lvA) (hs : pm_rs bS ad st stA)
    (kk : ∀ (ls2 : Array Slot) (lvA2 : pm_L) (stA2 : List Value), lv_has ls2 nL lvA2 → pm_rl bS ad lv2 lvA2 → pm_rs bS ad st2 stA2 → W p l e R s m args below meth c H locs cells slots Q (F0 m (pc + pm_len i) ls2 stA2)) : W p l e R s m args below meth c H locs cells slots Q (F0 m pc ls stA) := by
  cases i
  case iconst n => cases h; exact lv_iconst hx hb hd rfl (kk ls lvA _ hl hv ⟨rfl, hs⟩)
  case bipush n => cases h; exact lv_bipush hx hb hd rfl (kk ls lvA _ hl hv ⟨rfl, hs⟩)
  case sipush n => cases h; exact lv_sipush hx hb hd rfl (kk ls lvA _ hl hv ⟨rfl, hs⟩)
  case lconst n => cases h; exact lv_lconst hx hb hd rfl (kk ls lvA _ hl hv ⟨rfl, hs⟩)
  case aconst_null => cases h; exact lv_null hx hb hd (kk ls lvA _ hl hv ⟨rfl, hs⟩)
  case iload_n k =>
    obtain ⟨x, hg, rfl, rfl⟩ := pm_ldi_ok h
    obtain ⟨w, hm, hw⟩ := hv.get hg
    rw [show w = .int x from hw] at hm
    exact lv_iload_n hx hb hd rfl (hl.2.2 _ hm) (kk ls lvA _ hl hv ⟨rfl, hs⟩)
  case iload k =>
    obtain ⟨x, hg, rfl, rfl⟩ := pm_ldi_ok h
    obtain ⟨w, hm, hw⟩ := hv.get hg
    rw [show w = .int x from hw] at hm
    exact lv_iload hx hb hd (hl.2.2 _ hm) (kk ls lvA _ hl hv ⟨rfl, hs⟩)
  case lload_n k =>
    obtain ⟨x, hg, rfl, rfl⟩ := pm_ldl_ok h
    obtain ⟨w, hm, hw⟩ := hv.get hg
    rw [show w = .long x from hw] at hm
    exact lv_lload_n hx hb hd rfl (hl.2.2 _ hm) (kk ls lvA _ hl hv ⟨rfl, hs⟩)
  case lload k =>
    obtain ⟨x, hg, rfl, rfl⟩ := pm_ldl_ok h
    obtain ⟨w, hm, hw⟩ := hv.get hg
    rw [show w = .long x from hw] at hm
    exact lv_lload hx hb hd (hl.2.2 _ hm) (kk ls lvA _ hl hv ⟨rfl, hs⟩)
  case aload_n k =>
    obtain ⟨v, hg, rfl, rfl, hc⟩ := pm_lda_ok h
    obtain ⟨w, hm, hw⟩ := hv.get hg
    rcases hc with ⟨x, rfl⟩ | rfl | ⟨x, rfl⟩
    · obtain ⟨a, ha, rfl⟩ := id hw
      exact lv_aload_n hx hb hd rfl (hl.2.2 _ hm) (kk ls lvA _ hl hv ⟨hw, hs⟩)
    · rw [show w = .null from hw] at hm
      exact lv_aload_nN hx hb hd rfl (hl.2.2 _ hm) (kk ls lvA _ hl hv ⟨rfl, hs⟩)
    · rw [show w = .ref bS from hw] at hm
      exact lv_aload_n hx hb hd rfl (hl.2.2 _ hm) (kk ls lvA _ hl hv ⟨rfl, hs⟩)
  case aload k =>
    obtain ⟨v, hg, rfl, rfl, hc⟩ := pm_lda_ok h
    obtain ⟨w, hm, hw⟩ := hv.get hg
    rcases hc with ⟨x, rfl⟩ | rfl | ⟨x, rfl⟩
    · obtain ⟨a, ha, rfl⟩ := id hw
      exact lv_aload hx hb hd (hl.2.2 _ hm) (kk ls lvA _ hl hv ⟨hw, hs⟩)
    · rw [show w = .null from hw] at hm
      exact lv_aloadN hx hb hd (hl.2.2 _ hm) (kk ls lvA _ hl hv ⟨rfl, hs⟩)
    · rw [show w = .ref bS from hw] at hm
      exact lv_aload hx hb hd (hl.2.2 _ hm) (kk ls lvA _ hl hv ⟨rfl, hs⟩)
  case istore_n k =>
    obtain ⟨x, r, rfl, hn, rfl, rfl⟩ := pm_sti_ok h
    obtain ⟨r', rfl, hr⟩ := pm_rs_i hs
    exact lv_istore_n (lv' := pm_set lvA k.val (.int x)) hx hb hd rfl hl hn rfl (fun ls2 h2 => kk ls2 _ _ h2 (hv.set rfl) hr)
  case istore k =>
    obtain ⟨x, r, rfl, hn, rfl, rfl⟩ := pm_sti_ok h
    obtain ⟨r', rfl, hr⟩ := pm_rs_i hs
    exact lv_istore (lv' := pm_set lvA k (.int x)) hx hb hd hl hn rfl (fun ls2 h2 => kk ls2 _ _ h2 (hv.set rfl) hr)
  case lstore_n k =>
    obtain ⟨x, r, rfl, hn, rfl, rfl⟩ := pm_stl_ok h
    obtain ⟨r', rfl, hr⟩ := pm_rs_l hs
    exact lv_lstore_n (lv' := pm_set2 lvA k.val (.long x)) hx hb hd rfl hl hn rfl (fun ls2 h2 => kk ls2 _ _ h2 (hv.set2 rfl) hr)
  case lstore k =>
    obtain ⟨x, r, rfl, hn, rfl, rfl⟩ := pm_stl_ok h
    obtain ⟨r', rfl, hr⟩ := pm_rs_l hs
    exact lv_lstore (lv' := pm_set2 lvA k (.long x)) hx hb hd hl hn rfl (fun ls2 h2 => kk ls2 _ _ h2 (hv.set2 rfl) hr)
  case astore_n k =>
    obtain ⟨v, r, rfl, hn, rfl, rfl, hc⟩ := pm_sta_ok h
    obtain ⟨w, r', rfl, hw, hr⟩ := pm_rs_cons hs
    rcases hc with ⟨x, rfl⟩ | rfl
    · obtain ⟨a, ha, rfl⟩ := id hw
      exact lv_astore_n (lv' := pm_set lvA k.val (.ref a)) hx hb hd rfl hl hn rfl (fun ls2 h2 => kk ls2 _ _ h2 (hv.set hw) hr)
    · obtain rfl : w = .null := hw
      exact lv_astore_nN (lv' := pm_set lvA k.val .null) hx hb hd rfl hl hn rfl (fun ls2 h2 => kk ls2 _ _ h2 (hv.set rfl) hr)
  case astore k =>
    obtain ⟨v, r, rfl, hn, rfl, rfl, hc⟩ := pm_sta_ok h
    obtain ⟨w, r', rfl, hw, hr⟩ := pm_rs_cons hs
    rcases hc with ⟨x, rfl⟩ | rfl
    · obtain ⟨a, ha, rfl⟩ := id hw
      exact lv_astore (lv' := pm_set lvA k (.ref a)) hx hb hd hl hn rfl (fun ls2 h2 => kk ls2 _ _ h2 (hv.set hw) hr)
    · obtain rfl : w = .null := hw
      exact lv_astoreN (lv' := pm_set lvA k .null) hx hb hd hl hn rfl (fun ls2 h2 => kk ls2 _ _ h2 (hv.set rfl) hr)
  case iinc k n =>
    obtain ⟨x, hg, hn, rfl, rfl⟩ := pm_inc_ok h
    obtain ⟨w, hm, hw⟩ := hv.get hg
    rw [show w = .int x from hw] at hm
    obtain ⟨j, hj⟩ := List.getElem?_of_mem hm
    exact lv_iinc (lv' := pm_set lvA k (.int (x + Int32.ofInt n))) hx hb hd hl hj rfl hn rfl (fun ls2 h2 => kk ls2 _ _ h2 (hv.set rfl) hs)
  case iadd =>
    obtain ⟨x, y, r, rfl, rfl, rfl⟩ := pm_bi_ok h
    obtain ⟨r1, rfl, h1⟩ := pm_rs_i hs
    obtain ⟨r2, rfl, h2⟩ := pm_rs_i h1
    exact lv_iadd hx hb hd (kk ls lvA _ hl hv ⟨rfl, h2⟩)
  case isub =>
    obtain ⟨x, y, r, rfl, rfl, rfl⟩ := pm_bi_ok h
    obtain ⟨r1, rfl, h1⟩ := pm_rs_i hs
    obtain ⟨r2, rfl, h2⟩ := pm_rs_i h1
    exact lv_isub hx hb hd (kk ls lvA _ hl hv ⟨rfl, h2⟩)
  case imul =>
    obtain ⟨x, y, r, rfl, rfl, rfl⟩ := pm_bi_ok h
    obtain ⟨r1, rfl, h1⟩ := pm_rs_i hs
    obtain ⟨r2, rfl, h2⟩ := pm_rs_i h1
    exact lv_imul hx hb hd (kk ls lvA _ hl hv ⟨rfl, h2⟩)
  case iand =>
    obtain ⟨x, y, r, rfl, rfl, rfl⟩ := pm_bi_ok h
    obtain ⟨r1, rfl, h1⟩ := pm_rs_i hs
    obtain ⟨r2, rfl, h2⟩ := pm_rs_i h1
    exact lv_iand hx hb hd (kk ls lvA _ hl hv ⟨rfl, h2⟩)
  case ior =>
    obtain ⟨x, y, r, rfl, rfl, rfl⟩ := pm_bi_ok h
    obtain ⟨r1, rfl, h1⟩ := pm_rs_i hs
    obtain ⟨r2, rfl, h2⟩ := pm_rs_i h1
    exact lv_ior hx hb hd (kk ls lvA _ hl hv ⟨rfl, h2⟩)
  case ishl =>
    obtain ⟨x, y, r, rfl, rfl, rfl⟩ := pm_bi_ok h
    obtain ⟨r1, rfl, h1⟩ := pm_rs_i hs
    obtain ⟨r2, rfl, h2⟩ := pm_rs_i h1
    exact lv_ishl hx hb hd (kk ls lvA _ hl hv ⟨rfl, h2⟩)
  case ishr =>
    obtain ⟨x, y, r, rfl, rfl, rfl⟩ := pm_bi_ok h
    obtain ⟨r1, rfl, h1⟩ := pm_rs_i hs
    obtain ⟨r2, rfl, h2⟩ := pm_rs_i h1
    exact lv_ishr hx hb hd (kk ls lvA _ hl hv ⟨rfl, h2⟩)
  case iushr =>
    obtain ⟨x, y, r, rfl, rfl, rfl⟩ := pm_bi_ok h
    obtain ⟨r1, rfl, h1⟩ := pm_rs_i hs
    obtain ⟨r2, rfl, h2⟩ := pm_rs_i h1
    exact lv_iushr hx hb hd rfl (kk ls lvA _ hl hv ⟨rfl, h2⟩)
  case idiv =>
    obtain ⟨x, y, r, rfl, hy, rfl, rfl⟩ := pm_bd_ok h
    obtain ⟨r1, rfl, h1⟩ := pm_rs_i hs
    obtain ⟨r2, rfl, h2⟩ := pm_rs_i h1
    exact lv_idiv hx hb hd hy (kk ls lvA _ hl hv ⟨rfl, h2⟩)
  case irem =>
    obtain ⟨x, y, r, rfl, hy, rfl, rfl⟩ := pm_bd_ok h
    obtain ⟨r1, rfl, h1⟩ := pm_rs_i hs
    obtain ⟨r2, rfl, h2⟩ := pm_rs_i h1
    exact lv_irem hx hb hd hy (kk ls lvA _ hl hv ⟨rfl, h2⟩)
  case ineg =>
    obtain ⟨x, r, rfl, rfl, rfl⟩ := pm_ui_ok h
    obtain ⟨r1, rfl, h1⟩ := pm_rs_i hs
    exact lv_ineg hx hb hd (kk ls lvA _ hl hv ⟨rfl, h1⟩)
  case i2l =>
    obtain ⟨x, r, rfl, rfl, rfl⟩ := pm_ui_ok h
    obtain ⟨r1, rfl, h1⟩ := pm_rs_i hs
    exact lv_i2l hx hb hd rfl (kk ls lvA _ hl hv ⟨rfl, h1⟩)
  case i2c =>
    obtain ⟨x, r, rfl, rfl, rfl⟩ := pm_ui_ok h
    obtain ⟨r1, rfl, h1⟩ := pm_rs_i hs
    exact lv_i2c hx hb hd rfl (kk ls lvA _ hl hv ⟨rfl, h1⟩)
  case l2i =>
    obtain ⟨x, r, rfl, rfl, rfl⟩ := pm_ul_ok h
    obtain ⟨r1, rfl, h1⟩ := pm_rs_l hs
    exact lv_l2i hx hb hd rfl (kk ls lvA _ hl hv ⟨rfl, h1⟩)
  case ladd =>
    obtain ⟨x, y, r, rfl, rfl, rfl⟩ := pm_bl_ok h
    obtain ⟨r1, rfl, h1⟩ := pm_rs_l hs
    obtain ⟨r2, rfl, h2⟩ := pm_rs_l h1
    exact lv_ladd hx hb hd (kk ls lvA _ hl hv ⟨rfl, h2⟩)
  case lsub =>
    obtain ⟨x, y, r, rfl, rfl, rfl⟩ := pm_bl_ok h
    obtain ⟨r1, rfl, h1⟩ := pm_rs_l hs
    obtain ⟨r2, rfl, h2⟩ := pm_rs_l h1
    exact lv_lsub hx hb hd (kk ls lvA _ hl hv ⟨rfl, h2⟩)
  case lmul =>
    obtain ⟨x, y, r, rfl, rfl, rfl⟩ := pm_bl_ok h
    obtain ⟨r1, rfl, h1⟩ := pm_rs_l hs
    obtain ⟨r2, rfl, h2⟩ := pm_rs_l h1
    exact lv_lmul hx hb hd (kk ls lvA _ hl hv ⟨rfl, h2⟩)
  case lcmp =>
    obtain ⟨x, y, r, rfl, rfl, rfl⟩ := pm_bl_ok h
    obtain ⟨r1, rfl, h1⟩ := pm_rs_l hs
    obtain ⟨r2, rfl, h2⟩ := pm_rs_l h1
    exact W.lcmp hx hb hd (kk ls lvA _ hl hv ⟨rfl, h2⟩)
  case dup =>
    replace h : pm_dup lv st = some (lv2, st2) := h
    unfold pm_dup at h
    split at h
    · split at h
      · rename_i v r hc
        cases h
        obtain ⟨w, r', rfl, hw, hr⟩ := pm_rs_cons hs
        exact lv_dup hx hb hd (hw.cat.trans hc) (kk ls lvA _ hl hv ⟨hw, hw, hr⟩)
      · cases h
    · cases h
  case pop =>
    replace h : pm_pop lv st = some (lv2, st2) := h
    unfold pm_pop at h
    split at h
    · split at h
      · rename_i v r hc
        cases h
        obtain ⟨w, r', rfl, hw, hr⟩ := pm_rs_cons hs
        exact lv_pop hx hb hd (hw.cat.trans hc) (kk ls lvA _ hl hv hr)
      · cases h
    · cases h
  case dup_x1 =>
    replace h : pm_dx1 lv st = some (lv2, st2) := h
    unfold pm_dx1 at h
    split at h
    · split at h
      · rename_i v u r hc
        cases h
        obtain ⟨w, r', rfl, hw, hr⟩ := pm_rs_cons hs
        obtain ⟨w2, r2, rfl, hw2, hr2⟩ := pm_rs_cons hr
        exact lv_dup_x1 hx hb hd (hw.cat.trans hc.1) (hw2.cat.trans hc.2) (kk ls lvA _ hl hv ⟨hw, hw2, hw, hr2⟩)
      · cases h
    · cases h
  case dup_x2 =>
    replace h : pm_dx2 lv st = some (lv2, st2) := h
    unfold pm_dx2 at h
    split at h
    · split at h
      · rename_i v u t r hc
        cases h
        obtain ⟨w, r', rfl, hw, hr⟩ := pm_rs_cons hs
        obtain ⟨w2, r2, rfl, hw2, hr2⟩ := pm_rs_cons hr
        obtain ⟨w3, r3, rfl, hw3, hr3⟩ := pm_rs_cons hr2
        exact lv_dup_x2 hx hb hd (hw.cat.trans hc.1) (hw2.cat.trans hc.2.1) (hw3.cat.trans hc.2.2) (kk ls lvA _ hl hv ⟨hw, hw2, hw3, hw, hr3⟩)
      · cases h
    · cases h
  case dup2 =>
    replace h : pm_du2 lv st = some (lv2, st2) := h
    unfold pm_du2 at h
    split at h
    · split at h
      · rename_i v u r hc
        cases h
        obtain ⟨w, r', rfl, hw, hr⟩ := pm_rs_cons hs
        obtain ⟨w2, r2, rfl, hw2, hr2⟩ := pm_rs_cons hr
        exact lv_dup2_11 hx hb hd (hw.cat.trans hc.1) (hw2.cat.trans hc.2) (kk ls lvA _ hl hv ⟨hw, hw2, hw, hw2, hr2⟩)
      · cases h
    · cases h
  all_goals exact nomatch (show (none : Option (pm_L × List Value)) = some (lv2, st2) from h)
end PMSIM
end
section
/-! THE PURE MACHINE, 2: jumps and switches -/
def pm_tgt (pc : Nat) (off : Int) : Option Nat := match (pc : Int) + off with
  | .ofNat t => some t
  | .negSucc _ => none
theorem pm_tgt_ok {pc t : Nat} {off : Int} (h : pm_tgt pc off = some t) : (pc : Int) + off = (t : Int) := by
  unfold pm_tgt at h
  split at h
  · rename_i u hu; cases h; exact hu
  · cases h
def pm_cz (c : Jvm.ClassFile.Cond) (x y : Int32) : Bool := match c with
  | .eq => decide (x = y)
  | .ne => !decide (x = y)
  | .lt => decide (x < y)
  | .ge => decide (y ≤ x)
  | .gt => decide (y < x)
  | .le => decide (x ≤ y)
def pm_isw (i : Instr) : Bool := match i with
  | .tableswitch _ _ _ _ => true
  | .lookupswitch _ _ => true
  | _ => false
def pm_jto (pc : Nat) (off : Int) (st : List Value) : Option (Nat × List Value) := match pm_tgt pc off with
  | some t => some (t, st)
  | none => none
def pm_jc (b : Bool) (pc : Nat) (off : Int) (st : List Value) : Option (Nat × List Value) := match pm_tgt pc off with
  | some t => some (if b = true then t else pc + 3, st)
  | none => none
theorem pm_jto_ok {pc t : Nat} {off : Int} {st st2 : List Value} (h : pm_jto pc off st = some (t, st2)) : (pc : Int) + off = (t : Int) ∧ st2 = st := by
  unfold pm_jto at h
  split at h
  · rename_i u hu; cases h; exact ⟨pm_tgt_ok hu, rfl⟩
  · cases h
theorem pm_jc_ok {b : Bool} {pc t : Nat} {off : Int} {st st2 : List Value} (h : pm_jc b pc off st = some (t, st2)) : ∃ u : Nat, (pc : Int) + off = (u : Int) ∧ st2 = st ∧ (b = true → t = u) ∧ (b = false → t = pc + 3) := by
  unfold pm_jc at h
  split at h
  · rename_i u hu
    cases h
    refine ⟨u, pm_tgt_ok hu, rfl, fun q => by rw [if_pos q], fun q => by rw [if_neg (by rw [q]; decide)]⟩
  · cases h
def pm_jz (c : Jvm.ClassFile.Cond) (off : Int) (pc : Nat) (st : List Value) : Option (Nat × List Value) := match st with
  | .int x :: r => pm_jc (pm_cz c x 0) pc off r
  | _ => none
def pm_j2 (c : Jvm.ClassFile.Cond) (off : Int) (pc : Nat) (st : List Value) : Option (Nat × List Value) := match st with
  | .int y :: .int x :: r => pm_jc (pm_cz c x y) pc off r
  | _ => none
def pm_jn (off : Int) (pc : Nat) (st : List Value) : Option (Nat × List Value) := match st with
  | .null :: r => pm_jto pc off r
  | .ref _ :: r => some (pc + 3, r)
  | _ => none
def pm_jm (off : Int) (pc : Nat) (st : List Value) : Option (Nat × List Value) := match st with
  | .null :: r => some (pc + 3, r)
  | .ref _ :: r => pm_jto pc off r
  | _ => none
def pm_ts (d lo hi : Int) (offs : Array Int) (pc : Nat) (st : List Value) : Option (Nat × List Value) := match st with
  | .int x :: r => if x.toInt < lo ∨ hi < x.toInt then pm_jto pc d r else match offs[(x.toInt - lo).toNat]? with
    | some o => pm_jto pc o r
    | none => none
  | _ => none
def pm_lks (d : Int) (ps : Array (Int × Int)) (pc : Nat) (st : List Value) : Option (Nat × List Value) := match st with
  | .int x :: r => if (ps.toList.zip (ps.toList.drop 1)).all (fun (a, next) => a.1 < next.1) = true then pm_jto pc (Op.lookupswitch.offset ps.toList d x.toInt) r else none
  | _ => none
def pm_jmp (i : Instr) (pc : Nat) (st : List Value) : Option (Nat × List Value) := match i with
  | .goto off => pm_jto pc off st
  | .ifCond c off => pm_jz c off pc st
  | .if_icmp c off => pm_j2 c off pc st
  | .ifnull off => pm_jn off pc st
  | .ifnonnull off => pm_jm off pc st
  | .tableswitch d lo hi offs => pm_ts d lo hi offs pc st
  | .lookupswitch d ps => pm_lks d ps pc st
  | _ => none
theorem pm_cz_eq {x y : Int32} : pm_cz .eq x y = true ↔ x = y := by simp [pm_cz]
theorem pm_cz_ne {x y : Int32} : pm_cz .ne x y = true ↔ ¬ x = y := by simp [pm_cz]
theorem pm_cz_lt {x y : Int32} : pm_cz .lt x y = true ↔ x < y := by simp [pm_cz]
theorem pm_cz_ge {x y : Int32} : pm_cz .ge x y = true ↔ y ≤ x := by simp [pm_cz]
theorem pm_cz_gt {x y : Int32} : pm_cz .gt x y = true ↔ y < x := by simp [pm_cz]
theorem pm_cz_le {x y : Int32} : pm_cz .le x y = true ↔ x ≤ y := by simp [pm_cz]
theorem pm_bf {b : Bool} {P : Prop} (h : b = true ↔ P) (n : ¬ P) : b = false := by
  cases b
  · rfl
  · exact absurd (h.mp rfl) n
section PMJMP
variable {p : Program} {l : Launch} {e : Env} {R : Room} {s : State} {m : MethodId} {args : Array Value} {below : List Frame} {meth : Method} {c : Code} {H : Heap} {locs : List Loc} {cells slots : Nat} {Q : State → Prop}
variable {cc : ByteArray} {pc nL : Nat} {ls : Array Slot} {bS : Nat} {ad : List Nat}
theorem pm_jmp_ok (hx : p.tables.exec = Jvm.exec) (hb : c.code = cc) {i : Instr} {pc2 len : Nat} {st st2 stA : List Value} (h : pm_jmp i pc st = some (pc2, st2)) (hd : decode cc pc = .ok (i, len)) (hk : pm_isw i = true ∨ len = pm_len i) (hs : pm_rs bS ad st stA)
    (kk : ∀ stA2 : List Value, pm_rs bS ad st2 stA2 → W p l e R s m args below meth c H locs cells slots Q (F0 m pc2 ls stA2)) : W p l e R s m args below meth c H locs cells slots Q (F0 m pc ls stA) := by
  cases i
  case goto off =>
    obtain ⟨ht, rfl⟩ := pm_jto_ok h
    rcases hk with hk | hk
    · cases hk
    · subst hk
      exact lv_goto hx hb hd ht (kk _ hs)
  case ifCond cn off =>
    rcases hk with hk | hk
    · cases hk
    subst hk
    replace h : pm_jz cn off pc st = some (pc2, st2) := h
    unfold pm_jz at h
    split at h
    · rename_i x r
      obtain ⟨r1, rfl, h1⟩ := pm_rs_i hs
      obtain ⟨u, ht, rfl, hy, hn⟩ := pm_jc_ok h
      have k1 := kk _ h1
      cases cn
      · exact lv_if_eq hx hb hd ht (fun q => by rw [← hy (pm_cz_eq.mpr q)]; exact k1) (fun q => by rw [← hn (pm_bf pm_cz_eq q)]; exact k1)
      · exact lv_if_ne hx hb hd ht (fun q => by rw [← hy (pm_cz_ne.mpr q)]; exact k1) (fun q => by rw [← hn (pm_bf pm_cz_ne (fun z => z q))]; exact k1)
      · exact lv_if_lt hx hb hd ht (fun q => by rw [← hy (pm_cz_lt.mpr q)]; exact k1) (fun q => by rw [← hn (pm_bf pm_cz_lt q)]; exact k1)
      · exact lv_if_ge hx hb hd ht (fun q => by rw [← hy (pm_cz_ge.mpr q)]; exact k1) (fun q => by rw [← hn (pm_bf pm_cz_ge q)]; exact k1)
      · exact lv_if_gt hx hb hd ht (fun q => by rw [← hy (pm_cz_gt.mpr q)]; exact k1) (fun q => by rw [← hn (pm_bf pm_cz_gt q)]; exact k1)
      · exact lv_if_le hx hb hd ht (fun q => by rw [← hy (pm_cz_le.mpr q)]; exact k1) (fun q => by rw [← hn (pm_bf pm_cz_le q)]; exact k1)
    · cases h
  case if_icmp cn off =>
    rcases hk with hk | hk
    · cases hk
    subst hk
    replace h : pm_j2 cn off pc st = some (pc2, st2) := h
    unfold pm_j2 at h
    split at h
    · rename_i y x r
      obtain ⟨r0, rfl, h0⟩ := pm_rs_i hs
      obtain ⟨r1, rfl, h1⟩ := pm_rs_i h0
      obtain ⟨u, ht, rfl, hy, hn⟩ := pm_jc_ok h
      have k1 := kk _ h1
      cases cn
      · exact lv_icmp_eq hx hb hd ht (fun q => by rw [← hy (pm_cz_eq.mpr q)]; exact k1) (fun q => by rw [← hn (pm_bf pm_cz_eq q)]; exact k1)
      · exact lv_icmp_ne hx hb hd ht (fun q => by rw [← hy (pm_cz_ne.mpr q)]; exact k1) (fun q => by rw [← hn (pm_bf pm_cz_ne (fun z => z q))]; exact k1)
      · exact lv_icmp_lt hx hb hd ht (fun q => by rw [← hy (pm_cz_lt.mpr q)]; exact k1) (fun q => by rw [← hn (pm_bf pm_cz_lt q)]; exact k1)
      · exact lv_icmp_ge hx hb hd ht (fun q => by rw [← hy (pm_cz_ge.mpr q)]; exact k1) (fun q => by rw [← hn (pm_bf pm_cz_ge q)]; exact k1)
      · exact lv_icmp_gt hx hb hd ht (fun q => by rw [← hy (pm_cz_gt.mpr q)]; exact k1) (fun q => by rw [← hn (pm_bf pm_cz_gt q)]; exact k1)
      · exact lv_icmp_le hx hb hd ht (fun q => by rw [← hy (pm_cz_le.mpr q)]; exact k1) (fun q => by rw [← hn (pm_bf pm_cz_le q)]; exact k1)
    · cases h
  case ifnull off =>
    rcases hk with hk | hk
    · cases hk
    subst hk
    replace h : pm_jn off pc st = some (pc2, st2) := h
    unfold pm_jn at h
    split at h
    · obtain ⟨r1, rfl, h1⟩ := pm_rs_n hs
      obtain ⟨ht, rfl⟩ := pm_jto_ok h
      exact lv_ifnullN hx hb hd ht (kk _ h1)
    · obtain ⟨a, r1, -, rfl, h1⟩ := pm_rs_r hs
      cases h
      exact lv_ifnull hx hb hd (kk _ h1)
    · cases h
  case ifnonnull off =>
    rcases hk with hk | hk
    · cases hk
    subst hk
    replace h : pm_jm off pc st = some (pc2, st2) := h
    unfold pm_jm at h
    split at h
    · obtain ⟨r1, rfl, h1⟩ := pm_rs_n hs
      cases h
      exact lv_ifnonnullN hx hb hd (kk _ h1)
    · obtain ⟨a, r1, -, rfl, h1⟩ := pm_rs_r hs
      obtain ⟨ht, rfl⟩ := pm_jto_ok h
      exact lv_ifnonnull hx hb hd ht (kk _ h1)
    · cases h
  case tableswitch d lo hi offs =>
    replace h : pm_ts d lo hi offs pc st = some (pc2, st2) := h
    unfold pm_ts at h
    split at h
    · rename_i x r
      obtain ⟨r1, rfl, h1⟩ := pm_rs_i hs
      split at h
      · rename_i hc
        obtain ⟨ht, rfl⟩ := pm_jto_ok h
        exact lv_tableOut hx hb hd hc ht (kk _ h1)
      · rename_i hc
        split at h
        · rename_i o ho
          obtain ⟨ht, rfl⟩ := pm_jto_ok h
          exact lv_tableIn hx hb hd (fun z => hc (Or.inl z)) (fun z => hc (Or.inr z)) ho ht (kk _ h1)
        · cases h
    · cases h
  case lookupswitch d ps =>
    replace h : pm_lks d ps pc st = some (pc2, st2) := h
    unfold pm_lks at h
    split at h
    · rename_i x r
      obtain ⟨r1, rfl, h1⟩ := pm_rs_i hs
      split at h
      · rename_i hc
        obtain ⟨ht, rfl⟩ := pm_jto_ok h
        exact lv_lookup hx hb hd hc rfl ht (kk _ h1)
      · cases h
    · cases h
  all_goals exact nomatch (show (none : Option (Nat × List Value)) = some (pc2, st2) from h)
end PMJMP
end
section
/-! THE PURE MACHINE, 3: cells. A pure cell is a va_E whose array class is a number of pm_ty and whose references are places. -/
def pm_ty (t : Nat) : FieldType := match t with
  | 0 => .int
  | 1 => .boolean
  | 2 => .long
  | 3 => .object "LambdaShelf$Code"
  | _ => .byte
def pm_ro (ad : List Nat) (x y : Option Nat) : Prop := match x with
  | none => y = none
  | some k => ∃ a, ad[k]? = some a ∧ y = some a
def pm_rc (bS : Nat) (ad : List Nat) (U : State) (e e' : va_E) : Prop := match e with
  | .inl (tg, n, .inl f) => ∃ cA : ClassId, e' = .inl (cA, n, .inl f) ∧ ArrOfT U cA (pm_ty tg) ∧ va_RA U cA (pm_ty tg)
  | .inl (tg, n, .inr (.inl f)) => ∃ cA : ClassId, e' = .inl (cA, n, .inr (.inl f)) ∧ ArrOfT U cA (pm_ty tg) ∧ va_RA U cA (pm_ty tg)
  | .inl (tg, n, .inr (.inr (.inr (.inr f)))) => ∃ (cA : ClassId) (g : Nat → Option Nat), e' = .inl (cA, n, .inr (.inr (.inr (.inr g)))) ∧ (∀ j, pm_ro ad (f j) (g j)) ∧ ArrOfT U cA (pm_ty tg) ∧ va_RA U cA (pm_ty tg)
  | .inr (ci, fs) => ∃ fs' : List Value, e' = .inr (ci, fs') ∧ pm_rs bS ad fs fs'
  | _ => False
def pm_rw (bS : Nat) (ad : List Nat) (U : State) (ph : List va_E) (ws : va_W) : Prop := ws.map (fun q => q.1) = ad ∧ ph.length = ws.length ∧ ∀ (k : Nat) (e : va_E), ph[k]? = some e → ∃ (a : Nat) (e' : va_E), ws[k]? = some (a, e') ∧ pm_rc bS ad U e e'
theorem pm_ro.mono {ad ad2 : List Nat} {x y : Option Nat} (h : pm_ro ad x y) : pm_ro (ad ++ ad2) x y := by
  cases x with
  | none => exact h
  | some k => obtain ⟨a, h1, h2⟩ := h; exact ⟨a, pm_at_app h1, h2⟩
theorem pm_rc.mono {bS : Nat} {ad ad2 : List Nat} {U : State} {e e' : va_E} (h : pm_rc bS ad U e e') : pm_rc bS (ad ++ ad2) U e e' := by
  unfold pm_rc at h ⊢
  split at h
  · exact h
  · exact h
  · obtain ⟨cA, g, h1, h2, h3⟩ := h
    exact ⟨cA, g, h1, fun j => (h2 j).mono, h3⟩
  · obtain ⟨fs', h1, h2⟩ := h
    exact ⟨fs', h1, h2.mono⟩
  · exact h.elim
theorem pm_rc.moved {bS : Nat} {ad : List Nat} {u U : State} {e e' : va_E} (hvm : u.vm.Alike U.vm) (h : pm_rc bS ad u e e') : pm_rc bS ad U e e' := by
  unfold pm_rc at h ⊢
  split at h
  · obtain ⟨cA, h1, h2, h3⟩ := h
    exact ⟨cA, h1, arrOfT_moved hvm h2, h3.moved hvm⟩
  · obtain ⟨cA, h1, h2, h3⟩ := h
    exact ⟨cA, h1, arrOfT_moved hvm h2, h3.moved hvm⟩
  · obtain ⟨cA, g, h1, h4, h2, h3⟩ := h
    exact ⟨cA, g, h1, h4, arrOfT_moved hvm h2, h3.moved hvm⟩
  · exact h
  · exact h.elim
theorem pm_rw.moved {bS : Nat} {ad : List Nat} {u U : State} {ph : List va_E} {ws : va_W} (hvm : u.vm.Alike U.vm) (h : pm_rw bS ad u ph ws) : pm_rw bS ad U ph ws :=
  ⟨h.1, h.2.1, fun k e hk => by obtain ⟨a, e', h1, h2⟩ := h.2.2 k e hk; exact ⟨a, e', h1, h2.moved hvm⟩⟩
theorem pm_rw.at {bS : Nat} {ad : List Nat} {U : State} {ph : List va_E} {ws : va_W} (h : pm_rw bS ad U ph ws) {k a : Nat} {e : va_E} (hk : ph[k]? = some e) (ha : ad[k]? = some a) : ∃ e' : va_E, ws[k]? = some (a, e') ∧ pm_rc bS ad U e e' := by
  obtain ⟨a', e', h1, h2⟩ := h.2.2 k e hk
  rw [← h.1, List.getElem?_map, h1] at ha
  cases ha
  exact ⟨e', h1, h2⟩
theorem pm_rw.set {bS : Nat} {ad : List Nat} {U : State} {ph : List va_E} {ws : va_W} (h : pm_rw bS ad U ph ws) {k a : Nat} {e e0 e' : va_E} (hk : ws[k]? = some (a, e0)) (hc : pm_rc bS ad U e e') : pm_rw bS ad U (ph.set k e) (ws.set k (a, e')) := by
  refine ⟨?_, by simp [h.2.1], fun j x hj => ?_⟩
  · rw [List.map_set, h.1]
    apply List.ext_getElem?
    intro n
    rw [List.getElem?_set]
    split
    · rename_i hn
      subst hn
      have h1 : ad[k]? = some a := by rw [← h.1, List.getElem?_map, hk]; rfl
      rw [h1]
      simp [(List.getElem?_eq_some_iff.mp h1).1]
    · rfl
  · rw [List.getElem?_set] at hj
    split at hj
    · rename_i hn
      subst hn
      split at hj
      · cases hj
        exact ⟨a, e', by rw [List.getElem?_set]; simp [(List.getElem?_eq_some_iff.mp hk).1], hc⟩
      · cases hj
    · rename_i hn
      obtain ⟨a1, e1, h1, h2⟩ := h.2.2 j x hj
      exact ⟨a1, e1, by rw [List.getElem?_set, if_neg hn]; exact h1, h2⟩
theorem pm_rw.push {bS : Nat} {ad : List Nat} {U : State} {ph : List va_E} {ws : va_W} (h : pm_rw bS ad U ph ws) {q : Nat} {e e' : va_E} (hc : pm_rc bS (ad ++ [q]) U e e') : pm_rw bS (ad ++ [q]) U (ph ++ [e]) (ws ++ [(q, e')]) := by
  refine ⟨by simp [h.1], by simp [h.2.1], fun j x hj => ?_⟩
  rcases Nat.lt_or_ge j ph.length with hl | hl
  · rw [List.getElem?_append_left hl] at hj
    obtain ⟨a1, e1, h1, h2⟩ := h.2.2 j x hj
    exact ⟨a1, e1, by rw [List.getElem?_append_left (by rw [← h.2.1]; exact hl)]; exact h1, h2.mono⟩
  · rw [List.getElem?_append_right hl] at hj
    have hj0 : j = ph.length := by
      have := (List.getElem?_eq_some_iff.mp hj).1
      simp at this
      omega
    subst hj0
    rw [Nat.sub_self] at hj
    cases hj
    refine ⟨q, e', ?_, hc⟩
    rw [h.2.1, List.getElem?_append_right (Nat.le_refl _), Nat.sub_self]
    rfl
theorem pm_rw.new {bS : Nat} {ad : List Nat} {U : State} {ph : List va_E} {ws : va_W} (h : pm_rw bS ad U ph ws) (q : Nat) : (ad ++ [q])[ph.length]? = some q := by
  have hl : ad.length = ph.length := by rw [← h.1, List.length_map, h.2.1]
  rw [← hl, List.getElem?_append_right (Nat.le_refl _), Nat.sub_self]
  rfl
theorem pm_K1 {D : va_G} {cl : List vw_C} {U : State} {tys : List (ClassId × FieldType)} {cA : ClassId} {ty : FieldType} (h : va_K D cl tys U) (h1 : ArrOfT U cA ty) (h2 : va_RA U cA ty) : va_K D cl [(cA, ty)] U :=
  ⟨h.1, fun k q hk => by
    match k, hk with
    | 0, hk => cases hk; exact ⟨h1, h2⟩
    | k + 1, hk => simp at hk⟩
theorem pm_K2 {D : va_G} {cl : List vw_C} {U : State} {tys : List (ClassId × FieldType)} {cA cB : ClassId} {ty tb : FieldType} (h : va_K D cl tys U) (h1 : ArrOfT U cA ty) (h2 : va_RA U cA ty) (h3 : ArrOfT U cB tb) (h4 : va_RA U cB tb) : va_K D cl [(cA, ty), (cB, tb)] U :=
  ⟨h.1, fun k q hk => by
    match k, hk with
    | 0, hk => cases hk; exact ⟨h1, h2⟩
    | 1, hk => cases hk; exact ⟨h3, h4⟩
    | k + 2, hk => simp at hk⟩
def pm_vo (x : Option Nat) : Value := match x with
  | none => .null
  | some k => .ref k
/-- may a field of this type hold it: with no test of an int that is a variable -/
def pm_fit (ty : FieldType) (v : Value) : Bool := match ty, v with
  | .int, .int _ => true
  | .boolean, .int x => x == 0 || x == 1
  | .long, .long _ => true
  | .object _, .null => true
  | .object _, .ref _ => true
  | .array _, .null => true
  | .array _, .ref _ => true
  | _, _ => false
theorem pm_fit_ok {bS : Nat} {ad : List Nat} {ty : FieldType} {v w : Value} (h : pm_fit ty v = true) (hv : pm_rv bS ad v w) : narrow ty w = w ∧ fits ty w = true := by
  unfold pm_fit at h
  split at h
  · obtain rfl : w = _ := hv; exact ⟨rfl, rfl⟩
  · rename_i x
    obtain rfl : w = _ := hv
    rcases (by simpa using h : x = 0 ∨ x = 1) with rfl | rfl
    · exact ⟨by decide, by decide⟩
    · exact ⟨by decide, by decide⟩
  · obtain rfl : w = _ := hv; exact ⟨rfl, rfl⟩
  · obtain rfl : w = _ := hv; exact ⟨rfl, rfl⟩
  · obtain ⟨a, -, rfl⟩ := hv; exact ⟨rfl, rfl⟩
  · obtain rfl : w = _ := hv; exact ⟨rfl, rfl⟩
  · obtain ⟨a, -, rfl⟩ := hv; exact ⟨rfl, rfl⟩
  · cases h
theorem pm_rs_get {bS : Nat} {ad : List Nat} {v : Value} : ∀ {a a' : List Value} {k : Nat}, pm_rs bS ad a a' → a[k]? = some v → ∃ w, a'[k]? = some w ∧ pm_rv bS ad v w
  | [], [], _, _, h => by simp at h
  | v0 :: r, w0 :: r', 0, hr, h => by simp at h; subst h; exact ⟨w0, rfl, hr.1⟩
  | v0 :: r, w0 :: r', k + 1, hr, h => by
    obtain ⟨w, h1, h2⟩ := pm_rs_get hr.2 (by simpa using h)
    exact ⟨w, by simpa using h1, h2⟩
  | [], _ :: _, _, h, _ => h.elim
  | _ :: _, [], _, h, _ => h.elim
theorem pm_rs_set {bS : Nat} {ad : List Nat} {v w : Value} (hv : pm_rv bS ad v w) : ∀ {a a' : List Value} {k : Nat}, pm_rs bS ad a a' → pm_rs bS ad (a.set k v) (a'.set k w)
  | [], [], _, _ => trivial
  | v0 :: r, w0 :: r', 0, hr => ⟨hv, hr.2⟩
  | v0 :: r, w0 :: r', k + 1, hr => ⟨hr.1, pm_rs_set hv hr.2⟩
  | [], _ :: _, _, h => h.elim
  | _ :: _, [], _, h => h.elim
end
section
/-! THE TABLES: by program, out of the claim's own Statement. Pool numbers and code names stand here alone. -/
abbrev pm_M : Type := MethodName × ByteArray × Nat × Option FieldType × Nat × Nat × Bool × Nat × List (Nat × Instr × Nat)
abbrev pm_nm (T : pm_M) : MethodName := T.1
abbrev pm_by (T : pm_M) : ByteArray := T.2.1
abbrev pm_ml (T : pm_M) : Nat := T.2.2.1
abbrev pm_re (T : pm_M) : Option FieldType := T.2.2.2.1
abbrev pm_na (T : pm_M) : Nat := T.2.2.2.2.1
abbrev pm_cn (T : pm_M) : Nat := T.2.2.2.2.2.1
abbrev pm_ini (T : pm_M) : Bool := T.2.2.2.2.2.2.1
abbrev pm_ps (T : pm_M) : Nat := T.2.2.2.2.2.2.2.1
abbrev pm_cd (T : pm_M) : List (Nat × Instr × Nat) := T.2.2.2.2.2.2.2.2
def pm_as {α : Type} (l : List (Nat × α)) (i : Nat) : Option α := match l with
  | [] => none
  | q :: r => if q.1 = i then some q.2 else pm_as r i
theorem pm_as_mem {α : Type} {i : Nat} {v : α} : ∀ {l : List (Nat × α)}, pm_as l i = some v → (i, v) ∈ l
  | [], h => by cases h
  | q :: r, h => by
    unfold pm_as at h
    split at h
    · rename_i hq
      cases h
      rw [← hq]
      exact List.mem_cons_self
    · exact List.mem_cons_of_mem _ (pm_as_mem h)
theorem pm_getD_mem {α : Type} {l : List α} {d a : α} {k : Nat} (h : l.getD k d = a) : a = d ∨ a ∈ l := by
  rw [List.getD_eq_getElem?_getD] at h
  cases hk : l[k]? with
  | none => rw [hk] at h; exact Or.inl h.symm
  | some b => rw [hk] at h; exact Or.inr (by rw [← h]; exact List.mem_of_getElem? hk)
def pm_F0 : u_T := fun k => match k with
  | 0 => ("LambdaShelf$Abstracter", "shape", "LLambdaShelf$Shape;", true)
  | 1 => ("LambdaShelf$Abstracter", "held", "[I", true)
  | 2 => ("LambdaShelf$Abstracter", "met", "[I", true)
  | 3 => ("LambdaShelf$Abstracter", "body", "LLambdaShelf$Code;", true)
  | 4 => ("LambdaShelf$Abstracter", "made", "LLambdaShelf$Code;", true)
  | _ => ("LambdaShelf$Abstracter", "front", "I", false)
def pm_F1 : u_T := fun k => match k with
  | 0 => ("LambdaShelf$Code", "cells", "[I", true)
  | 1 => ("LambdaShelf$Code", "length", "I", false)
  | _ => ("LambdaShelf$Code", "over", "Z", false)
def pm_F2 : u_T := fun k => match k with
  | 0 => ("LambdaShelf$Reader", "items", "[I", true)
  | 1 => ("LambdaShelf$Reader", "openNames", "[I", true)
  | 2 => ("LambdaShelf$Reader", "rowsAround", "[I", true)
  | 3 => ("LambdaShelf$Reader", "tape", "LLambdaShelf$Tape;", true)
  | 4 => ("LambdaShelf$Reader", "itemCount", "I", false)
  | 5 => ("LambdaShelf$Reader", "row", "I", false)
  | 6 => ("LambdaShelf$Reader", "open", "I", false)
  | 7 => ("LambdaShelf$Reader", "inHead", "I", false)
  | 8 => ("LambdaShelf$Reader", "kind", "I", false)
  | 9 => ("LambdaShelf$Reader", "start", "I", false)
  | 10 => ("LambdaShelf$Reader", "next", "I", false)
  | 11 => ("LambdaShelf$Reader", "fault", "I", false)
  | _ => ("LambdaShelf$Reader", "faultPlace", "I", false)
def pm_F3 : u_T := fun k => match k with
  | 0 => ("LambdaShelf$Shape", "ends", "[I", true)
  | _ => ("LambdaShelf$Shape", "depths", "[I", true)
def pm_F4 : u_T := fun k => match k with
  | 0 => ("LambdaShelf$Tape", "bytes", "[I", true)
  | _ => ("LambdaShelf$Tape", "length", "I", false)
def pm_F5 : u_T := fun k => match k with
  | 0 => ("LambdaShelf$Teller", "around", "[I", true)
  | 1 => ("LambdaShelf$Teller", "aroundCount", "I", false)
  | 2 => ("LambdaShelf$Teller", "depth", "I", false)
  | 3 => ("LambdaShelf$Teller", "wanted", "I", false)
  | 4 => ("LambdaShelf$Teller", "told", "I", false)
  | _ => ("LambdaShelf$Teller", "found", "I", false)
def pm_F6 : u_T := fun k => match k with
  | 0 => ("LambdaShelf$Turner", "shape", "LLambdaShelf$Shape;", true)
  | _ => ("LambdaShelf$Turner", "made", "LLambdaShelf$Code;", true)
def pm_F7 : u_T := fun k => match k with
  | 0 => ("LambdaShelf$Typer", "shape", "LLambdaShelf$Shape;", true)
  | 1 => ("LambdaShelf$Typer", "froms", "[I", true)
  | 2 => ("LambdaShelf$Typer", "tos", "[I", true)
  | 3 => ("LambdaShelf$Typer", "links", "[I", true)
  | 4 => ("LambdaShelf$Typer", "queue", "[I", true)
  | 5 => ("LambdaShelf$Typer", "marks", "[I", true)
  | 6 => ("LambdaShelf$Typer", "binders", "[I", true)
  | 7 => ("LambdaShelf$Typer", "waiting", "[I", true)
  | 8 => ("LambdaShelf$Typer", "made", "LLambdaShelf$Code;", true)
  | 9 => ("LambdaShelf$Typer", "latest", "LLambdaShelf$Code;", true)
  | 10 => ("LambdaShelf$Typer", "nodes", "I", false)
  | 11 => ("LambdaShelf$Typer", "waitingCount", "I", false)
  | _ => ("LambdaShelf$Typer", "shared", "I", false)
def pm_F8 : u_T := fun k => match k with
  | 0 => ("LambdaShelf", "tape", "LLambdaShelf$Tape;", true)
  | 1 => ("LambdaShelf", "terms", "[LLambdaShelf$Code;", true)
  | 2 => ("LambdaShelf", "trial", "LLambdaShelf$Code;", true)
  | 3 => ("LambdaShelf", "shape", "LLambdaShelf$Shape;", true)
  | 4 => ("LambdaShelf", "reader", "LLambdaShelf$Reader;", true)
  | 5 => ("LambdaShelf", "teller", "LLambdaShelf$Teller;", true)
  | 6 => ("LambdaShelf", "turner", "LLambdaShelf$Turner;", true)
  | 7 => ("LambdaShelf", "abstracter", "LLambdaShelf$Abstracter;", false)
  | 8 => ("LambdaShelf", "typer", "LLambdaShelf$Typer;", false)
  | 9 => ("LambdaShelf", "many", "I", false)
  | 10 => ("LambdaShelf", "latestFault", "I", false)
  | 11 => ("LambdaShelf", "latestEnding", "I", false)
  | _ => ("LambdaShelf", "latestGreatest", "I", false)
def pm_F9 : u_T := fun k => match k with
  | 0 => ("LambdaShelfModel", "terms", "I", false)
  | 1 => ("LambdaShelfModel", "sizes", "[I", true)
  | 2 => ("LambdaShelfModel", "codes", "[I", true)
  | 3 => ("LambdaShelfModel", "tape", "[I", true)
  | 4 => ("LambdaShelfModel", "taped", "I", false)
  | 5 => ("LambdaShelfModel", "row", "[I", true)
  | 6 => ("LambdaShelfModel", "size", "I", false)
  | 7 => ("LambdaShelfModel", "depth", "[I", true)
  | 8 => ("LambdaShelfModel", "pending", "[I", true)
  | 9 => ("LambdaShelfModel", "at", "I", false)
  | 10 => ("LambdaShelfModel", "from", "I", false)
  | 11 => ("LambdaShelfModel", "sort", "I", false)
  | 12 => ("LambdaShelfModel", "value", "J", false)
  | 13 => ("LambdaShelfModel", "fault", "I", false)
  | 14 => ("LambdaShelfModel", "wrongAt", "I", false)
  | 15 => ("LambdaShelfModel", "begins", "[I", true)
  | 16 => ("LambdaShelfModel", "hasPart", "[Z", true)
  | 17 => ("LambdaShelfModel", "binds", "[I", true)
  | 18 => ("LambdaShelfModel", "levels", "I", false)
  | 19 => ("LambdaShelfModel", "names", "[J", true)
  | 20 => ("LambdaShelfModel", "nameMany", "I", false)
  | 21 => ("LambdaShelfModel", "opens", "I", false)
  | 22 => ("LambdaShelfModel", "text", "[I", true)
  | 23 => ("LambdaShelfModel", "textMany", "I", false)
  | 24 => ("LambdaShelfModel", "blank", "[Z", true)
  | 25 => ("LambdaShelfModel", "opened", "[Z", true)
  | 26 => ("LambdaShelfModel", "closed", "[I", true)
  | 27 => ("LambdaShelfModel", "fresh", "[I", true)
  | 28 => ("LambdaShelfModel", "freshMany", "I", false)
  | 29 => ("LambdaShelfModel", "inner", "[I", true)
  | 30 => ("LambdaShelfModel", "how", "I", false)
  | 31 => ("LambdaShelfModel", "greatest", "I", false)
  | 32 => ("LambdaShelfModel", "kinds", "I", false)
  | 33 => ("LambdaShelfModel", "became", "[I", true)
  | 34 => ("LambdaShelfModel", "left", "[I", true)
  | 35 => ("LambdaShelfModel", "right", "[I", true)
  | 36 => ("LambdaShelfModel", "firsts", "[I", true)
  | 37 => ("LambdaShelfModel", "seconds", "[I", true)
  | 38 => ("LambdaShelfModel", "mark", "[I", true)
  | 39 => ("LambdaShelfModel", "path", "[I", true)
  | 40 => ("LambdaShelfModel", "binder", "[I", true)
  | 41 => ("LambdaShelfModel", "lambdaType", "[I", true)
  | 42 => ("LambdaShelfModel", "lambdaAt", "[I", true)
  | 43 => ("LambdaShelfModel", "pile", "[I", true)
  | 44 => ("LambdaShelfModel", "type", "[I", true)
  | 45 => ("LambdaShelfModel", "typeMany", "I", false)
  | 46 => ("LambdaShelfModel", "drafted", "[I", true)
  | 47 => ("LambdaShelfModel", "numbered", "[I", true)
  | _ => ("LambdaShelfModel", "waiting", "[I", true)
abbrev pm_cl : List vw_C := [("LambdaShelf$Abstracter", pm_F0, 6), ("LambdaShelf$Code", pm_F1, 3), ("LambdaShelf$Reader", pm_F2, 13), ("LambdaShelf$Shape", pm_F3, 2), ("LambdaShelf$Tape", pm_F4, 2), ("LambdaShelf$Teller", pm_F5, 6), ("LambdaShelf$Turner", pm_F6, 2), ("LambdaShelf$Typer", pm_F7, 13), ("LambdaShelf", pm_F8, 13), ("LambdaShelfModel", pm_F9, 49)]
def pm_fts : List (List FieldType) := [[.object "LambdaShelf$Shape", .array .int, .array .int, .object "LambdaShelf$Code", .object "LambdaShelf$Code", .int], [.array .int, .int, .boolean], [.array .int, .array .int, .array .int, .object "LambdaShelf$Tape", .int, .int, .int, .int, .int, .int, .int, .int, .int], [.array .int, .array .int], [.array .int, .int], [.array .int, .int, .int, .int, .int, .int], [.object "LambdaShelf$Shape", .object "LambdaShelf$Code"], [.object "LambdaShelf$Shape", .array .int, .array .int, .array .int, .array .int, .array .int, .array .int, .array .int, .object "LambdaShelf$Code", .object "LambdaShelf$Code", .int, .int, .int], [.object "LambdaShelf$Tape", .array (.object "LambdaShelf$Code"), .object "LambdaShelf$Code", .object "LambdaShelf$Shape", .object "LambdaShelf$Reader", .object "LambdaShelf$Teller", .object "LambdaShelf$Turner", .object "LambdaShelf$Abstracter", .object "LambdaShelf$Typer", .int, .int, .int, .int], [.int, .array .int, .array .int, .array .int, .int, .array .int, .int, .array .int, .array .int, .int, .int, .int, .long, .int, .int, .array .int, .array .boolean, .array .int, .int, .array .long, .int, .int, .array .int, .int, .array .boolean, .array .boolean, .array .int, .array .int, .int, .array .int, .int, .int, .int, .array .int, .array .int, .array .int, .array .int, .array .int, .array .int, .array .int, .array .int, .array .int, .array .int, .array .int, .array .int, .int, .array .int, .array .int, .array .int]]
def pm_dfs : List (List Value) := [[.null, .null, .null, .null, .null, .int 0], [.null, .int 0, .int 0], [.null, .null, .null, .null, .int 0, .int 0, .int 0, .int 0, .int 0, .int 0, .int 0, .int 0, .int 0], [.null, .null], [.null, .int 0], [.null, .int 0, .int 0, .int 0, .int 0, .int 0], [.null, .null], [.null, .null, .null, .null, .null, .null, .null, .null, .null, .null, .int 0, .int 0, .int 0], [.null, .null, .null, .null, .null, .null, .null, .null, .null, .int 0, .int 0, .int 0, .int 0], [.int 0, .null, .null, .null, .int 0, .null, .int 0, .null, .null, .int 0, .int 0, .int 0, .long 0, .int 0, .int 0, .null, .null, .null, .int 0, .null, .int 0, .int 0, .null, .int 0, .null, .null, .null, .null, .int 0, .null, .int 0, .int 0, .int 0, .null, .null, .null, .null, .null, .null, .null, .null, .null, .null, .null, .null, .int 0, .null, .null, .null]]
def pm_fty (ci k : Nat) : FieldType := (pm_fts.getD ci []).getD k .byte
def pm_cC : Nat := 1
def pm_cc0 : List (Nat × Instr × Nat) := [(0, .new 7, 3), (3, .dup, 1), (4, .invokespecial 9, 3), (7, .astore_n 1, 1), (8, .new 10, 3), (11, .dup, 1), (12, .invokespecial 12, 3), (15, .astore_n 2, 1), (16, .iconst 0, 1), (17, .istore_n 3, 1), (18, .iload_n 3, 1), (19, .aload_n 0, 1), (20, .arraylength, 1), (21, .bipush 6, 2), (23, .isub, 1), (24, .if_icmp .gt 761, 3), (27, .aload_n 0, 1), (28, .iload_n 3, 1), (29, .iaload, 1), (30, .bipush 31, 2), (32, .iand, 1), (33, .tableswitch 746 0 22 #[107, 170, 193, 206, 219, 242, 275, 308, 341, 364, 397, 430, 473, 496, 529, 552, 575, 598, 631, 654, 677, 710, 723], 107), (140, .aload_n 1, 1), (141, .aload_n 0, 1), (142, .iload_n 3, 1), (143, .iconst 1, 1), (144, .iadd, 1), (145, .iaload, 1), (146, .aload_n 0, 1), (147, .iload_n 3, 1), (148, .iconst 2, 1), (149, .iadd, 1), (150, .iaload, 1), (151, .aload_n 0, 1), (152, .iload_n 3, 1), (153, .iconst 3, 1), (154, .iadd, 1), (155, .iaload, 1), (156, .aload_n 0, 1), (157, .iload_n 3, 1), (158, .iconst 4, 1), (159, .iadd, 1), (160, .iaload, 1), (161, .aload_n 0, 1), (162, .iload_n 3, 1), (163, .iconst 5, 1), (164, .iadd, 1), (165, .iaload, 1), (166, .invokevirtual 13, 3), (169, .aload_n 2, 1), (170, .aload_n 0, 1), (171, .iload_n 3, 1), (172, .iconst 1, 1), (173, .iadd, 1), (174, .iaload, 1), (175, .aload_n 0, 1), (176, .iload_n 3, 1), (177, .iconst 2, 1), (178, .iadd, 1), (179, .iaload, 1), (180, .aload_n 0, 1), (181, .iload_n 3, 1), (182, .iconst 3, 1), (183, .iadd, 1), (184, .iaload, 1), (185, .aload_n 0, 1), (186, .iload_n 3, 1), (187, .iconst 4, 1), (188, .iadd, 1), (189, .iaload, 1), (190, .aload_n 0, 1), (191, .iload_n 3, 1), (192, .iconst 5, 1), (193, .iadd, 1), (194, .iaload, 1), (195, .invokevirtual 17, 3), (198, .if_icmp .eq 581, 3), (203, .aload_n 1, 1), (204, .aload_n 0, 1), (205, .iload_n 3, 1), (206, .iconst 1, 1), (207, .iadd, 1), (208, .iaload, 1), (209, .invokevirtual 18, 3), (212, .aload_n 2, 1), (213, .aload_n 0, 1), (214, .iload_n 3, 1), (215, .iconst 1, 1), (216, .iadd, 1), (217, .iaload, 1), (218, .invokevirtual 22, 3), (221, .if_icmp .eq 558, 3), (226, .aload_n 1, 1), (227, .invokevirtual 23, 3), (230, .aload_n 2, 1), (231, .invokevirtual 27, 3), (234, .if_icmp .eq 545, 3), (239, .aload_n 1, 1), (240, .invokevirtual 28, 3), (243, .aload_n 2, 1), (244, .invokevirtual 31, 3), (247, .if_icmp .eq 532, 3), (252, .aload_n 1, 1), (253, .aload_n 0, 1), (254, .iload_n 3, 1), (255, .iconst 1, 1), (256, .iadd, 1), (257, .iaload, 1), (258, .invokevirtual 32, 3), (261, .aload_n 2, 1), (262, .aload_n 0, 1), (263, .iload_n 3, 1), (264, .iconst 1, 1), (265, .iadd, 1), (266, .iaload, 1), (267, .invokevirtual 35, 3), (270, .if_icmp .eq 509, 3), (275, .aload_n 1, 1), (276, .aload_n 0, 1), (277, .iload_n 3, 1), (278, .iconst 1, 1), (279, .iadd, 1), (280, .iaload, 1), (281, .aload_n 0, 1), (282, .iload_n 3, 1), (283, .iconst 2, 1), (284, .iadd, 1), (285, .iaload, 1), (286, .invokevirtual 36, 3), (289, .aload_n 2, 1), (290, .aload_n 0, 1), (291, .iload_n 3, 1), (292, .iconst 1, 1), (293, .iadd, 1), (294, .iaload, 1), (295, .aload_n 0, 1), (296, .iload_n 3, 1), (297, .iconst 2, 1), (298, .iadd, 1), (299, .iaload, 1), (300, .invokevirtual 40, 3), (303, .if_icmp .eq 476, 3), (308, .aload_n 1, 1), (309, .aload_n 0, 1), (310, .iload_n 3, 1), (311, .iconst 1, 1), (312, .iadd, 1), (313, .iaload, 1), (314, .aload_n 0, 1), (315, .iload_n 3, 1), (316, .iconst 2, 1), (317, .iadd, 1), (318, .iaload, 1), (319, .invokevirtual 41, 3), (322, .aload_n 2, 1), (323, .aload_n 0, 1), (324, .iload_n 3, 1), (325, .iconst 1, 1), (326, .iadd, 1), (327, .iaload, 1), (328, .aload_n 0, 1), (329, .iload_n 3, 1), (330, .iconst 2, 1), (331, .iadd, 1), (332, .iaload, 1), (333, .invokevirtual 44, 3), (336, .if_icmp .eq 443, 3), (341, .aload_n 1, 1), (342, .aload_n 0, 1), (343, .iload_n 3, 1), (344, .iconst 1, 1), (345, .iadd, 1), (346, .iaload, 1), (347, .aload_n 0, 1), (348, .iload_n 3, 1), (349, .iconst 2, 1), (350, .iadd, 1), (351, .iaload, 1), (352, .invokevirtual 45, 3), (355, .aload_n 2, 1), (356, .aload_n 0, 1), (357, .iload_n 3, 1), (358, .iconst 1, 1), (359, .iadd, 1), (360, .iaload, 1), (361, .aload_n 0, 1), (362, .iload_n 3, 1), (363, .iconst 2, 1), (364, .iadd, 1), (365, .iaload, 1), (366, .invokevirtual 48, 3), (369, .if_icmp .eq 410, 3), (374, .aload_n 1, 1), (375, .aload_n 0, 1), (376, .iload_n 3, 1), (377, .iconst 1, 1), (378, .iadd, 1), (379, .iaload, 1), (380, .invokevirtual 49, 3), (383, .aload_n 2, 1), (384, .aload_n 0, 1), (385, .iload_n 3, 1), (386, .iconst 1, 1), (387, .iadd, 1), (388, .iaload, 1), (389, .invokevirtual 52, 3), (392, .if_icmp .eq 387, 3), (397, .aload_n 1, 1), (398, .aload_n 0, 1), (399, .iload_n 3, 1), (400, .iconst 1, 1), (401, .iadd, 1), (402, .iaload, 1), (403, .aload_n 0, 1), (404, .iload_n 3, 1), (405, .iconst 2, 1), (406, .iadd, 1), (407, .iaload, 1), (408, .invokevirtual 53, 3), (411, .aload_n 2, 1), (412, .aload_n 0, 1), (413, .iload_n 3, 1), (414, .iconst 1, 1), (415, .iadd, 1), (416, .iaload, 1), (417, .aload_n 0, 1), (418, .iload_n 3, 1), (419, .iconst 2, 1), (420, .iadd, 1), (421, .iaload, 1), (422, .invokevirtual 56, 3), (425, .if_icmp .eq 354, 3), (430, .aload_n 1, 1), (431, .aload_n 0, 1), (432, .iload_n 3, 1), (433, .iconst 1, 1), (434, .iadd, 1), (435, .iaload, 1), (436, .aload_n 0, 1), (437, .iload_n 3, 1), (438, .iconst 2, 1), (439, .iadd, 1), (440, .iaload, 1), (441, .invokevirtual 57, 3), (444, .aload_n 2, 1), (445, .aload_n 0, 1), (446, .iload_n 3, 1), (447, .iconst 1, 1), (448, .iadd, 1), (449, .iaload, 1), (450, .aload_n 0, 1), (451, .iload_n 3, 1), (452, .iconst 2, 1), (453, .iadd, 1), (454, .iaload, 1), (455, .invokevirtual 60, 3), (458, .if_icmp .eq 321, 3), (463, .aload_n 1, 1), (464, .aload_n 0, 1), (465, .iload_n 3, 1), (466, .iconst 1, 1), (467, .iadd, 1), (468, .iaload, 1), (469, .aload_n 0, 1), (470, .iload_n 3, 1), (471, .iconst 2, 1), (472, .iadd, 1), (473, .iaload, 1), (474, .aload_n 0, 1), (475, .iload_n 3, 1), (476, .iconst 3, 1), (477, .iadd, 1), (478, .iaload, 1), (479, .invokevirtual 61, 3), (482, .aload_n 2, 1), (483, .aload_n 0, 1), (484, .iload_n 3, 1), (485, .iconst 1, 1), (486, .iadd, 1), (487, .iaload, 1), (488, .aload_n 0, 1), (489, .iload_n 3, 1), (490, .iconst 2, 1), (491, .iadd, 1), (492, .iaload, 1), (493, .aload_n 0, 1), (494, .iload_n 3, 1), (495, .iconst 3, 1), (496, .iadd, 1), (497, .iaload, 1), (498, .invokevirtual 65, 3), (501, .if_icmp .eq 278, 3), (506, .aload_n 1, 1), (507, .aload_n 0, 1), (508, .iload_n 3, 1), (509, .iconst 1, 1), (510, .iadd, 1), (511, .iaload, 1), (512, .invokevirtual 66, 3), (515, .aload_n 2, 1), (516, .aload_n 0, 1), (517, .iload_n 3, 1), (518, .iconst 1, 1), (519, .iadd, 1), (520, .iaload, 1), (521, .invokevirtual 69, 3), (524, .if_icmp .eq 255, 3), (529, .aload_n 1, 1), (530, .aload_n 0, 1), (531, .iload_n 3, 1), (532, .iconst 1, 1), (533, .iadd, 1), (534, .iaload, 1), (535, .aload_n 0, 1), (536, .iload_n 3, 1), (537, .iconst 2, 1), (538, .iadd, 1), (539, .iaload, 1), (540, .invokevirtual 70, 3), (543, .aload_n 2, 1), (544, .aload_n 0, 1), (545, .iload_n 3, 1), (546, .iconst 1, 1), (547, .iadd, 1), (548, .iaload, 1), (549, .aload_n 0, 1), (550, .iload_n 3, 1), (551, .iconst 2, 1), (552, .iadd, 1), (553, .iaload, 1), (554, .invokevirtual 73, 3), (557, .if_icmp .eq 222, 3), (562, .aload_n 1, 1), (563, .aload_n 0, 1), (564, .iload_n 3, 1), (565, .iconst 1, 1), (566, .iadd, 1), (567, .iaload, 1), (568, .invokevirtual 74, 3), (571, .aload_n 2, 1), (572, .aload_n 0, 1), (573, .iload_n 3, 1), (574, .iconst 1, 1), (575, .iadd, 1), (576, .iaload, 1), (577, .invokevirtual 77, 3), (580, .if_icmp .eq 199, 3), (585, .aload_n 1, 1), (586, .aload_n 0, 1), (587, .iload_n 3, 1), (588, .iconst 1, 1), (589, .iadd, 1), (590, .iaload, 1), (591, .invokevirtual 78, 3), (594, .aload_n 2, 1), (595, .aload_n 0, 1), (596, .iload_n 3, 1), (597, .iconst 1, 1), (598, .iadd, 1), (599, .iaload, 1), (600, .invokevirtual 81, 3), (603, .if_icmp .eq 176, 3), (608, .aload_n 1, 1), (609, .aload_n 0, 1), (610, .iload_n 3, 1), (611, .iconst 1, 1), (612, .iadd, 1), (613, .iaload, 1), (614, .invokevirtual 82, 3), (617, .aload_n 2, 1), (618, .aload_n 0, 1), (619, .iload_n 3, 1), (620, .iconst 1, 1), (621, .iadd, 1), (622, .iaload, 1), (623, .invokevirtual 85, 3), (626, .if_icmp .eq 153, 3), (631, .aload_n 1, 1), (632, .aload_n 0, 1), (633, .iload_n 3, 1), (634, .iconst 1, 1), (635, .iadd, 1), (636, .iaload, 1), (637, .aload_n 0, 1), (638, .iload_n 3, 1), (639, .iconst 2, 1), (640, .iadd, 1), (641, .iaload, 1), (642, .invokevirtual 86, 3), (645, .aload_n 2, 1), (646, .aload_n 0, 1), (647, .iload_n 3, 1), (648, .iconst 1, 1), (649, .iadd, 1), (650, .iaload, 1), (651, .aload_n 0, 1), (652, .iload_n 3, 1), (653, .iconst 2, 1), (654, .iadd, 1), (655, .iaload, 1), (656, .invokevirtual 89, 3), (659, .if_icmp .eq 120, 3), (664, .aload_n 1, 1), (665, .aload_n 0, 1), (666, .iload_n 3, 1), (667, .iconst 1, 1), (668, .iadd, 1), (669, .iaload, 1), (670, .invokevirtual 90, 3), (673, .aload_n 2, 1), (674, .aload_n 0, 1), (675, .iload_n 3, 1), (676, .iconst 1, 1), (677, .iadd, 1), (678, .iaload, 1), (679, .invokevirtual 93, 3), (682, .if_icmp .eq 97, 3), (687, .aload_n 1, 1), (688, .aload_n 0, 1), (689, .iload_n 3, 1), (690, .iconst 1, 1), (691, .iadd, 1), (692, .iaload, 1), (693, .invokevirtual 94, 3), (696, .aload_n 2, 1), (697, .aload_n 0, 1), (698, .iload_n 3, 1), (699, .iconst 1, 1), (700, .iadd, 1), (701, .iaload, 1), (702, .invokevirtual 97, 3), (705, .if_icmp .eq 74, 3), (710, .aload_n 1, 1), (711, .aload_n 0, 1), (712, .iload_n 3, 1), (713, .iconst 1, 1), (714, .iadd, 1), (715, .iaload, 1), (716, .aload_n 0, 1), (717, .iload_n 3, 1), (718, .iconst 2, 1), (719, .iadd, 1), (720, .iaload, 1), (721, .invokevirtual 98, 3), (724, .aload_n 2, 1), (725, .aload_n 0, 1), (726, .iload_n 3, 1), (727, .iconst 1, 1), (728, .iadd, 1), (729, .iaload, 1), (730, .aload_n 0, 1), (731, .iload_n 3, 1), (732, .iconst 2, 1), (733, .iadd, 1), (734, .iaload, 1), (735, .invokevirtual 101, 3), (738, .if_icmp .eq 41, 3), (743, .aload_n 1, 1), (744, .invokevirtual 102, 3), (747, .aload_n 2, 1), (748, .invokevirtual 105, 3), (751, .if_icmp .eq 28, 3), (756, .aload_n 1, 1), (757, .aload_n 0, 1), (758, .iload_n 3, 1), (759, .iconst 1, 1), (760, .iadd, 1), (761, .iaload, 1), (762, .invokevirtual 106, 3), (765, .aload_n 2, 1), (766, .aload_n 0, 1), (767, .iload_n 3, 1), (768, .iconst 1, 1), (769, .iadd, 1), (770, .iaload, 1), (771, .invokevirtual 109, 3), (774, .if_icmp .eq 5, 3), (779, .iinc 3 6, 3), (782, .goto (-764), 3), (785, .iconst 1, 1), (786, .ireturn, 1)]
def pm_mm0 : pm_M := (x, code, maxLocals, ret, 1, 10, false, 0, pm_cc0)
def pm_cc1 : List (Nat × Instr × Nat) := [(0, .aload_n 0, 1), (1, .invokespecial 1, 3), (4, .aload_n 0, 1), (5, .new 7, 3), (8, .dup, 1), (9, .invokespecial 9, 3), (12, .putfield 10, 3), (15, .aload_n 0, 1), (16, .bipush 32, 2), (18, .anewarray 16, 3), (21, .putfield 18, 3), (24, .aload_n 0, 1), (25, .new 16, 3), (28, .dup, 1), (29, .sipush 500, 3), (32, .invokespecial 22, 3), (35, .putfield 25, 3), (38, .aload_n 0, 1), (39, .new 29, 3), (42, .dup, 1), (43, .invokespecial 31, 3), (46, .putfield 32, 3), (49, .aload_n 0, 1), (50, .new 36, 3), (53, .dup, 1), (54, .aload_n 0, 1), (55, .getfield 10, 3), (58, .invokespecial 38, 3), (61, .putfield 41, 3), (64, .aload_n 0, 1), (65, .new 45, 3), (68, .dup, 1), (69, .invokespecial 47, 3), (72, .putfield 48, 3), (75, .aload_n 0, 1), (76, .new 52, 3), (79, .dup, 1), (80, .aload_n 0, 1), (81, .getfield 32, 3), (84, .invokespecial 54, 3), (87, .putfield 57, 3), (90, .return_, 1)]
def pm_mm1 : pm_M := (⟨"LambdaShelf", "<init>", "()V"⟩, prog_1_method_1_code, 1, (Option.none : Option FieldType), 0, 8, true, 144, pm_cc1)
def pm_cc2 : List (Nat × Instr × Nat) := [(0, .aload_n 0, 1), (1, .invokespecial 3, 3), (4, .aload_n 0, 1), (5, .sipush 600, 3), (8, .newarray .int, 2), (10, .putfield 9, 3), (13, .return_, 1)]
def pm_mm2 : pm_M := (⟨"LambdaShelf$Tape", "<init>", "()V"⟩, prog_6_method_1_code, 1, (Option.none : Option FieldType), 0, 4, true, 152, pm_cc2)
def pm_cc3 : List (Nat × Instr × Nat) := [(0, .aload_n 0, 1), (1, .invokespecial 3, 3), (4, .aload_n 0, 1), (5, .iload_n 1, 1), (6, .iconst 0, 1), (7, .invokestatic 9, 3), (10, .newarray .int, 2), (12, .putfield 15, 3), (15, .return_, 1)]
def pm_mm3 : pm_M := (⟨"LambdaShelf$Code", "<init>", "(I)V"⟩, prog_3_method_1_code, 2, (Option.none : Option FieldType), 1, 1, true, 169, pm_cc3)
def pm_cc4 : List (Nat × Instr × Nat) := [(0, .aload_n 0, 1), (1, .invokespecial 3, 3), (4, .aload_n 0, 1), (5, .sipush 502, 3), (8, .newarray .int, 2), (10, .putfield 11, 3), (13, .aload_n 0, 1), (14, .sipush 502, 3), (17, .newarray .int, 2), (19, .putfield 17, 3), (22, .return_, 1)]
def pm_mm4 : pm_M := (⟨"LambdaShelf$Shape", "<init>", "()V"⟩, prog_5_method_1_code, 1, (Option.none : Option FieldType), 0, 3, true, 199, pm_cc4)
def pm_cc5 : List (Nat × Instr × Nat) := [(0, .aload_n 0, 1), (1, .invokespecial 3, 3), (4, .aload_n 0, 1), (5, .sipush 601, 3), (8, .newarray .int, 2), (10, .putfield 9, 3), (13, .aload_n 0, 1), (14, .bipush 40, 2), (16, .newarray .int, 2), (18, .putfield 15, 3), (21, .aload_n 0, 1), (22, .bipush 40, 2), (24, .newarray .int, 2), (26, .putfield 18, 3), (29, .aload_n 0, 1), (30, .aload_n 1, 1), (31, .putfield 21, 3), (34, .return_, 1)]
def pm_mm5 : pm_M := (⟨"LambdaShelf$Reader", "<init>", "(LLambdaShelf$Tape;)V"⟩, prog_4_method_1_code, 2, (Option.none : Option FieldType), 1, 2, true, 212, pm_cc5)
def pm_cc6 : List (Nat × Instr × Nat) := [(0, .aload_n 0, 1), (1, .invokespecial 3, 3), (4, .aload_n 0, 1), (5, .sipush 500, 3), (8, .newarray .int, 2), (10, .putfield 9, 3), (13, .return_, 1)]
def pm_mm6 : pm_M := (⟨"LambdaShelf$Teller", "<init>", "()V"⟩, prog_7_method_1_code, 1, (Option.none : Option FieldType), 0, 5, true, 259, pm_cc6)
def pm_cc7 : List (Nat × Instr × Nat) := [(0, .aload_n 0, 1), (1, .invokespecial 3, 3), (4, .aload_n 0, 1), (5, .new 9, 3), (8, .dup, 1), (9, .sipush 500, 3), (12, .invokespecial 11, 3), (15, .putfield 14, 3), (18, .aload_n 0, 1), (19, .aload_n 1, 1), (20, .putfield 20, 3), (23, .return_, 1)]
def pm_mm7 : pm_M := (⟨"LambdaShelf$Turner", "<init>", "(LLambdaShelf$Shape;)V"⟩, prog_8_method_1_code, 2, (Option.none : Option FieldType), 1, 6, true, 284, pm_cc7)
def pm_cc8 : List (Nat × Instr × Nat) := [(0, .aload_n 0, 1), (1, .getfield 10, 3), (4, .getfield 61, 3), (7, .bipush 20, 2), (9, .iadd, 1), (10, .sipush 600, 3), (13, .if_icmp .le 6, 3), (19, .aload_n 0, 1), (20, .getfield 10, 3), (23, .iload_n 1, 1), (24, .invokevirtual 65, 3), (27, .aload_n 0, 1), (28, .getfield 10, 3), (31, .iload_n 2, 1), (32, .invokevirtual 65, 3), (35, .aload_n 0, 1), (36, .getfield 10, 3), (39, .iload_n 3, 1), (40, .invokevirtual 65, 3), (43, .aload_n 0, 1), (44, .getfield 10, 3), (47, .iload 4, 2), (49, .invokevirtual 65, 3), (52, .aload_n 0, 1), (53, .getfield 10, 3), (56, .iload 5, 2), (58, .invokevirtual 65, 3), (61, .aload_n 0, 1), (62, .getfield 10, 3), (65, .getfield 61, 3), (68, .ireturn, 1)]
def pm_mm8 : pm_M := (⟨"LambdaShelf", "feed", "(IIIII)I"⟩, prog_1_method_2_code, 6, (Option.some FieldType.int), 5, 8, false, 338, pm_cc8)
def pm_cc9 : List (Nat × Instr × Nat) := [(0, .bipush 24, 2), (2, .istore_n 2, 1), (3, .iload_n 2, 1), (4, .ifCond .lt 47, 3), (7, .aload_n 0, 1), (8, .getfield 15, 3), (11, .aload_n 0, 1), (12, .getfield 9, 3), (15, .arraylength, 1), (16, .if_icmp .ge 29, 3), (19, .aload_n 0, 1), (20, .getfield 9, 3), (23, .aload_n 0, 1), (24, .getfield 15, 3), (27, .iload_n 1, 1), (28, .iload_n 2, 1), (29, .iushr, 1), (30, .sipush 255, 3), (33, .iand, 1), (34, .iastore, 1), (35, .aload_n 0, 1), (36, .dup, 1), (37, .getfield 15, 3), (40, .iconst 1, 1), (41, .iadd, 1), (42, .putfield 15, 3), (45, .iinc 2 (-8), 3), (48, .goto (-45), 3), (51, .return_, 1)]
def pm_mm9 : pm_M := (⟨"LambdaShelf$Tape", "putFour", "(I)V"⟩, prog_6_method_2_code, 3, (Option.none : Option FieldType), 1, 4, false, 342, pm_cc9)
def pm_cc10 : List (Nat × Instr × Nat) := [(0, .iload_n 1, 1), (1, .ifCond .lt 14, 3), (4, .iload_n 1, 1), (5, .aload_n 0, 1), (6, .getfield 10, 3), (9, .getfield 61, 3), (12, .if_icmp .le 5, 3), (15, .iconst (-1), 1), (16, .ireturn, 1), (17, .aload_n 0, 1), (18, .getfield 10, 3), (21, .getfield 61, 3), (24, .istore_n 2, 1), (25, .aload_n 0, 1), (26, .getfield 10, 3), (29, .iload_n 1, 1), (30, .putfield 61, 3), (33, .iload_n 2, 1), (34, .ireturn, 1)]
def pm_mm10 : pm_M := (⟨"LambdaShelf", "end", "(I)I"⟩, prog_1_method_3_code, 3, (Option.some FieldType.int), 1, 8, false, 346, pm_cc10)
def pm_cc11 : List (Nat × Instr × Nat) := [(0, .aload_n 0, 1), (1, .invokevirtual 68, 3), (4, .astore_n 1, 1), (5, .aload_n 1, 1), (6, .ifnonnull 6, 3), (12, .aload_n 0, 1), (13, .aload_n 0, 1), (14, .getfield 41, 3), (17, .aload_n 1, 1), (18, .invokevirtual 72, 3), (21, .putfield 76, 3), (24, .aload_n 0, 1), (25, .getfield 10, 3), (28, .iconst 0, 1), (29, .putfield 61, 3), (32, .aload_n 0, 1), (33, .getfield 76, 3), (36, .ifCond .ne 10, 3), (46, .bipush (-10), 2), (48, .aload_n 0, 1), (49, .getfield 41, 3), (52, .getfield 83, 3), (55, .isub, 1), (56, .ireturn, 1)]
def pm_mm11 : pm_M := (⟨"LambdaShelf", "term", "()I"⟩, prog_1_method_4_code, 2, (Option.some FieldType.int), 0, 8, false, 350, pm_cc11)
def pm_cc12 : List (Nat × Instr × Nat) := [(0, .aload_n 0, 1), (1, .getfield 179, 3), (4, .ifCond .lt 15, 3), (7, .aload_n 0, 1), (8, .getfield 179, 3), (11, .aload_n 0, 1), (12, .getfield 18, 3), (15, .arraylength, 1), (16, .if_icmp .lt 5, 3), (21, .aload_n 0, 1), (22, .getfield 18, 3), (25, .aload_n 0, 1), (26, .getfield 179, 3), (29, .aaload, 1), (30, .astore_n 1, 1), (31, .aload_n 1, 1), (32, .ifnonnull 24, 3), (35, .new 16, 3), (38, .dup, 1), (39, .sipush 500, 3), (42, .invokespecial 22, 3), (45, .astore_n 1, 1), (46, .aload_n 0, 1), (47, .getfield 18, 3), (50, .aload_n 0, 1), (51, .getfield 179, 3), (54, .aload_n 1, 1), (55, .aastore, 1), (56, .aload_n 1, 1), (57, .invokevirtual 185, 3), (60, .aload_n 1, 1), (61, .areturn, 1)]
def pm_mm12 : pm_M := (⟨"LambdaShelf", "freshTerm", "()LLambdaShelf$Code;"⟩, prog_1_method_26_code, 2, (Option.some (FieldType.object "LambdaShelf$Code")), 0, 8, false, 354, pm_cc12)
def pm_cc13 : List (Nat × Instr × Nat) := [(0, .aload_n 0, 1), (1, .iconst 0, 1), (2, .putfield 21, 3), (5, .aload_n 0, 1), (6, .iconst 0, 1), (7, .putfield 25, 3), (10, .return_, 1)]
def pm_mm13 : pm_M := (⟨"LambdaShelf$Code", "clear", "()V"⟩, prog_3_method_3_code, 1, (Option.none : Option FieldType), 0, 1, false, 358, pm_cc13)
def pm_cc14 : List (Nat × Instr × Nat) := [(0, .aload_n 0, 1), (1, .iconst 0, 1), (2, .putfield 25, 3), (5, .aload_n 0, 1), (6, .iconst 0, 1), (7, .putfield 29, 3), (10, .aload_n 0, 1), (11, .iconst 0, 1), (12, .putfield 32, 3), (15, .aload_n 0, 1), (16, .iconst 0, 1), (17, .putfield 35, 3), (20, .aload_n 0, 1), (21, .iconst 0, 1), (22, .putfield 38, 3), (25, .aload_n 0, 1), (26, .iconst 0, 1), (27, .putfield 41, 3), (30, .aload_n 0, 1), (31, .invokevirtual 44, 3), (34, .aload_n 0, 1), (35, .invokevirtual 47, 3), (38, .aload_n 0, 1), (39, .getfield 38, 3), (42, .ifCond .ne 8, 3), (50, .aload_n 0, 1), (51, .getfield 38, 3), (54, .ireturn, 1)]
def pm_mm14 : pm_M := (⟨"LambdaShelf$Reader", "readInto", "(LLambdaShelf$Code;)I"⟩, prog_4_method_2_code, 2, (Option.some FieldType.int), 1, 2, false, 362, pm_cc14)
def pm_cc15 : List (Nat × Instr × Nat) := [(0, .aload_n 0, 1), (1, .aload_n 0, 1), (2, .getfield 25, 3), (5, .putfield 140, 3), (8, .aload_n 0, 1), (9, .iconst 0, 1), (10, .invokevirtual 121, 3), (13, .return_, 1)]
def pm_mm15 : pm_M := (⟨"LambdaShelf$Reader", "startRow", "()V"⟩, prog_4_method_18_code, 1, (Option.none : Option FieldType), 0, 2, false, 366, pm_cc15)
def pm_cc16 : List (Nat × Instr × Nat) := [(0, .aload_n 0, 1), (1, .getfield 25, 3), (4, .ifCond .lt 35, 3), (7, .aload_n 0, 1), (8, .getfield 25, 3), (11, .aload_n 0, 1), (12, .getfield 9, 3), (15, .arraylength, 1), (16, .if_icmp .ge 23, 3), (19, .aload_n 0, 1), (20, .getfield 9, 3), (23, .aload_n 0, 1), (24, .getfield 25, 3), (27, .iload_n 1, 1), (28, .iastore, 1), (29, .aload_n 0, 1), (30, .dup, 1), (31, .getfield 25, 3), (34, .iconst 1, 1), (35, .iadd, 1), (36, .putfield 25, 3), (39, .return_, 1)]
def pm_mm16 : pm_M := (⟨"LambdaShelf$Reader", "putItem", "(I)V"⟩, prog_4_method_21_code, 2, (Option.none : Option FieldType), 1, 2, false, 370, pm_cc16)
def pm_cc17 : List (Nat × Instr × Nat) := [(0, .aload_n 0, 1), (1, .iconst 4, 1), (2, .putfield 54, 3), (5, .iconst 0, 1), (6, .istore_n 1, 1), (7, .iload_n 1, 1), (8, .sipush 600, 3), (11, .if_icmp .gt 38, 3), (14, .aload_n 0, 1), (15, .getfield 54, 3), (18, .ifCond .eq 31, 3), (21, .aload_n 0, 1), (22, .getfield 38, 3), (25, .ifCond .ne 24, 3), (28, .aload_n 0, 1), (29, .invokevirtual 57, 3), (32, .aload_n 0, 1), (33, .getfield 38, 3), (36, .ifCond .ne 7, 3), (39, .aload_n 0, 1), (40, .invokevirtual 60, 3), (43, .iinc 1 1, 3), (46, .goto (-39), 3), (49, .return_, 1)]
def pm_mm17 : pm_M := (⟨"LambdaShelf$Reader", "takeTokens", "()V"⟩, prog_4_method_3_code, 2, (Option.none : Option FieldType), 0, 2, false, 374, pm_cc17)
def pm_cc18 : List (Nat × Instr × Nat) := [(0, .aload_n 0, 1), (1, .getfield 35, 3), (4, .aload_n 0, 1), (5, .getfield 21, 3), (8, .getfield 63, 3), (11, .if_icmp .ge 32, 3), (43, .aload_n 0, 1), (44, .aload_n 0, 1), (45, .getfield 35, 3), (48, .putfield 72, 3), (51, .aload_n 0, 1), (52, .getfield 21, 3), (55, .aload_n 0, 1), (56, .getfield 72, 3), (59, .invokevirtual 68, 3), (62, .istore_n 1, 1), (63, .aload_n 0, 1), (64, .getfield 72, 3), (67, .aload_n 0, 1), (68, .getfield 21, 3), (71, .getfield 63, 3), (74, .if_icmp .lt 11, 3), (77, .aload_n 0, 1), (78, .iconst 0, 1), (79, .putfield 54, 3), (82, .goto 106, 3), (188, .return_, 1)]
def pm_mm18 : pm_M := (⟨"LambdaShelf$Reader", "findToken", "()V"⟩, prog_4_method_4_code, 2, (Option.none : Option FieldType), 0, 2, false, 378, pm_cc18)
def pm_cc19 : List (Nat × Instr × Nat) := [(0, .iload_n 1, 1), (1, .ifCond .lt 29, 3), (4, .iload_n 1, 1), (5, .aload_n 0, 1), (6, .getfield 15, 3), (9, .if_icmp .ge 21, 3), (30, .iconst (-1), 1), (31, .ireturn, 1)]
def pm_mm19 : pm_M := (⟨"LambdaShelf$Tape", "at", "(I)I"⟩, prog_6_method_3_code, 2, (Option.some FieldType.int), 1, 4, false, 382, pm_cc19)
def pm_cc20 : List (Nat × Instr × Nat) := [(0, .aload_n 0, 1), (1, .iload_n 1, 1), (2, .putfield 38, 3), (5, .aload_n 0, 1), (6, .aload_n 0, 1), (7, .getfield 72, 3), (10, .putfield 41, 3), (13, .return_, 1)]
def pm_mm20 : pm_M := (⟨"LambdaShelf$Reader", "fail", "(I)V"⟩, prog_4_method_25_code, 2, (Option.none : Option FieldType), 1, 2, false, 393, pm_cc20)
def pm_cc21 : List (Nat × Instr × Nat) := [(0, .aload_n 0, 1), (1, .getfield 32, 3), (4, .ifCond .eq 8, 3), (12, .aload_n 0, 1), (13, .getfield 54, 3), (16, .tableswitch 98 1 4 #[32, 39, 54, 80], 32), (114, .aload_n 0, 1), (115, .invokevirtual 115, 3), (118, .return_, 1)]
def pm_mm21 : pm_M := (⟨"LambdaShelf$Reader", "takeToken", "()V"⟩, prog_4_method_8_code, 1, (Option.none : Option FieldType), 0, 2, false, 493, pm_cc21)
def pm_cc22 : List (Nat × Instr × Nat) := [(0, .aload_n 0, 1), (1, .getfield 140, 3), (4, .ifCond .lt 27, 3), (7, .aload_n 0, 1), (8, .getfield 140, 3), (11, .aload_n 0, 1), (12, .getfield 9, 3), (15, .arraylength, 1), (16, .if_icmp .ge 15, 3), (19, .aload_n 0, 1), (20, .getfield 9, 3), (23, .aload_n 0, 1), (24, .getfield 140, 3), (27, .iaload, 1), (28, .ifCond .ne 7, 3), (31, .iconst 1, 1), (32, .goto 4, 3), (36, .ireturn, 1)]
def pm_mm22 : pm_M := (⟨"LambdaShelf$Reader", "isRowEmpty", "()Z"⟩, prog_4_method_19_code, 1, (Option.some FieldType.boolean), 0, 2, false, 533, pm_cc22)
def pm_cc23 : List (Nat × Instr × Nat) := [(0, .aload_n 0, 1), (1, .invokevirtual 133, 3), (4, .ifCond .ne 10, 3), (14, .aload_n 0, 1), (15, .iconst 2, 1), (16, .invokevirtual 95, 3), (19, .return_, 1)]
def pm_mm23 : pm_M := (⟨"LambdaShelf$Reader", "takeEnd", "()V"⟩, prog_4_method_14_code, 1, (Option.none : Option FieldType), 0, 2, false, 537, pm_cc23)
def pm_cc24 : List (Nat × Instr × Nat) := [(0, .aload_n 0, 1), (1, .getfield 76, 3), (4, .ireturn, 1)]
def pm_mm24 : pm_M := (⟨"LambdaShelf", "fault", "()I"⟩, prog_1_method_5_code, 1, (Option.some FieldType.int), 0, 8, false, 560, pm_cc24)
def pm_cc25 : List (Nat × Instr × Nat) := [(0, .aload_n 0, 1), (1, .iload_n 1, 1), (2, .invokevirtual 86, 3), (5, .astore_n 2, 1), (6, .aload_n 2, 1), (7, .ifnonnull 7, 3), (10, .iconst (-1), 1), (11, .goto 7, 3), (18, .ireturn, 1)]
def pm_mm25 : pm_M := (⟨"LambdaShelf", "size", "(I)I"⟩, prog_1_method_6_code, 3, (Option.some FieldType.int), 1, 8, false, 564, pm_cc25)
def pm_cc26 : List (Nat × Instr × Nat) := [(0, .iload_n 1, 1), (1, .ifCond .lt 29, 3), (4, .iload_n 1, 1), (5, .aload_n 0, 1), (6, .getfield 179, 3), (9, .if_icmp .ge 21, 3), (30, .aconst_null, 1), (31, .areturn, 1)]
def pm_mm26 : pm_M := (⟨"LambdaShelf", "termAt", "(I)LLambdaShelf$Code;"⟩, prog_1_method_25_code, 2, (Option.some (FieldType.object "LambdaShelf$Code")), 1, 8, false, 568, pm_cc26)
def pm_cc27 : List (Nat × Instr × Nat) := [(0, .aload_n 0, 1), (1, .iload_n 1, 1), (2, .invokevirtual 86, 3), (5, .astore_n 3, 1), (6, .aload_n 3, 1), (7, .ifnonnull 7, 3), (10, .iconst (-1), 1), (11, .goto 8, 3), (19, .ireturn, 1)]
def pm_mm27 : pm_M := (⟨"LambdaShelf", "code", "(II)I"⟩, prog_1_method_7_code, 4, (Option.some FieldType.int), 2, 8, false, 572, pm_cc27)
def pm_cc28 : List (Nat × Instr × Nat) := [(0, .aload_n 0, 1), (1, .iload_n 1, 1), (2, .invokevirtual 86, 3), (5, .astore_n 3, 1), (6, .aload_n 3, 1), (7, .ifnonnull 7, 3), (10, .iconst (-1), 1), (11, .goto 12, 3), (23, .ireturn, 1)]
def pm_mm28 : pm_M := (⟨"LambdaShelf", "letter", "(II)I"⟩, prog_1_method_8_code, 4, (Option.some FieldType.int), 2, 8, false, 580, pm_cc28)
def pm_cc29 : List (Nat × Instr × Nat) := [(0, .aload_n 0, 1), (1, .iload_n 1, 1), (2, .invokevirtual 86, 3), (5, .astore_n 3, 1), (6, .aload_n 0, 1), (7, .iload_n 2, 1), (8, .invokevirtual 86, 3), (11, .astore 4, 2), (13, .aload_n 3, 1), (14, .ifnull 8, 3), (22, .iconst (-1), 1), (23, .ireturn, 1)]
def pm_mm29 : pm_M := (⟨"LambdaShelf", "apply", "(II)I"⟩, prog_1_method_9_code, 6, (Option.some FieldType.int), 2, 8, false, 639, pm_cc29)
def pm_cc30 : List (Nat × Instr × Nat) := [(0, .aload_n 0, 1), (1, .iload_n 1, 1), (2, .invokevirtual 86, 3), (5, .astore_n 2, 1), (6, .aload_n 2, 1), (7, .ifnonnull 5, 3), (10, .iconst (-1), 1), (11, .ireturn, 1)]
def pm_mm30 : pm_M := (⟨"LambdaShelf", "copy", "(I)I"⟩, prog_1_method_10_code, 4, (Option.some FieldType.int), 1, 8, false, 655, pm_cc30)
def pm_cc31 : List (Nat × Instr × Nat) := [(0, .aload_n 0, 1), (1, .iload_n 1, 1), (2, .invokevirtual 86, 3), (5, .astore_n 3, 1), (6, .aload_n 0, 1), (7, .iload_n 2, 1), (8, .invokevirtual 86, 3), (11, .astore 4, 2), (13, .aload_n 3, 1), (14, .ifnull 8, 3), (22, .iconst (-1), 1), (23, .ireturn, 1)]
def pm_mm31 : pm_M := (⟨"LambdaShelf", "same", "(II)I"⟩, prog_1_method_11_code, 5, (Option.some FieldType.int), 2, 8, false, 659, pm_cc31)
def pm_cc32 : List (Nat × Instr × Nat) := [(0, .aload_n 0, 1), (1, .iload_n 1, 1), (2, .invokevirtual 86, 3), (5, .astore_n 3, 1), (6, .aload_n 3, 1), (7, .ifnull 10, 3), (17, .iconst (-1), 1), (18, .goto 12, 3), (30, .ireturn, 1)]
def pm_mm32 : pm_M := (⟨"LambdaShelf", "step", "(II)I"⟩, prog_1_method_12_code, 4, (Option.some FieldType.int), 2, 8, false, 668, pm_cc32)
def pm_cc33 : List (Nat × Instr × Nat) := [(0, .aload_n 0, 1), (1, .iload_n 1, 1), (2, .invokevirtual 86, 3), (5, .astore 4, 2), (7, .aload 4, 2), (9, .ifnull 17, 3), (26, .iconst (-1), 1), (27, .ireturn, 1)]
def pm_mm33 : pm_M := (⟨"LambdaShelf", "steps", "(III)I"⟩, prog_1_method_13_code, 7, (Option.some FieldType.int), 3, 8, false, 771, pm_cc33)
def pm_cc34 : List (Nat × Instr × Nat) := [(0, .iload_n 1, 1), (1, .lookupswitch 37 #[(0, 27), (1, 32)], 27), (28, .aload_n 0, 1), (29, .getfield 127, 3), (32, .ireturn, 1), (33, .aload_n 0, 1), (34, .getfield 124, 3), (37, .ireturn, 1), (38, .iconst (-1), 1), (39, .ireturn, 1)]
def pm_mm34 : pm_M := (⟨"LambdaShelf", "told", "(I)I"⟩, prog_1_method_14_code, 2, (Option.some FieldType.int), 1, 8, false, 779, pm_cc34)
def pm_cc35 : List (Nat × Instr × Nat) := [(0, .aload_n 0, 1), (1, .iload_n 1, 1), (2, .invokevirtual 86, 3), (5, .astore_n 3, 1), (6, .aload_n 3, 1), (7, .ifnull 10, 3), (17, .iconst (-1), 1), (18, .goto 12, 3), (30, .ireturn, 1)]
def pm_mm35 : pm_M := (⟨"LambdaShelf", "redex", "(II)I"⟩, prog_1_method_15_code, 4, (Option.some FieldType.int), 2, 8, false, 783, pm_cc35)
def pm_cc36 : List (Nat × Instr × Nat) := [(0, .aload_n 0, 1), (1, .iload_n 1, 1), (2, .invokevirtual 86, 3), (5, .astore_n 2, 1), (6, .aload_n 2, 1), (7, .ifnonnull 7, 3), (10, .iconst (-1), 1), (11, .goto 11, 3), (22, .ireturn, 1)]
def pm_mm36 : pm_M := (⟨"LambdaShelf", "redexes", "(I)I"⟩, prog_1_method_16_code, 3, (Option.some FieldType.int), 1, 8, false, 788, pm_cc36)
def pm_cc37 : List (Nat × Instr × Nat) := [(0, .aload_n 0, 1), (1, .iload_n 1, 1), (2, .invokevirtual 86, 3), (5, .astore_n 2, 1), (6, .aload_n 2, 1), (7, .ifnonnull 5, 3), (10, .iconst (-1), 1), (11, .ireturn, 1)]
def pm_mm37 : pm_M := (⟨"LambdaShelf", "abstracted", "(I)I"⟩, prog_1_method_17_code, 4, (Option.some FieldType.int), 1, 8, false, 796, pm_cc37)
def pm_cc38 : List (Nat × Instr × Nat) := [(0, .aload_n 0, 1), (1, .iload_n 1, 1), (2, .invokevirtual 86, 3), (5, .astore_n 2, 1), (6, .aload_n 2, 1), (7, .ifnonnull 7, 3), (10, .iconst (-1), 1), (11, .goto 7, 3), (18, .ireturn, 1)]
def pm_mm38 : pm_M := (⟨"LambdaShelf", "number", "(I)I"⟩, prog_1_method_18_code, 3, (Option.some FieldType.int), 1, 8, false, 869, pm_cc38)
def pm_cc39 : List (Nat × Instr × Nat) := [(0, .aload_n 0, 1), (1, .iload_n 1, 1), (2, .invokevirtual 86, 3), (5, .astore_n 3, 1), (6, .aload_n 3, 1), (7, .ifnull 10, 3), (17, .iconst (-1), 1), (18, .ireturn, 1)]
def pm_mm39 : pm_M := (⟨"LambdaShelf", "read", "(II)I"⟩, prog_1_method_19_code, 6, (Option.some FieldType.int), 2, 8, false, 879, pm_cc39)
def pm_cc40 : List (Nat × Instr × Nat) := [(0, .aload_n 0, 1), (1, .iload_n 1, 1), (2, .invokevirtual 86, 3), (5, .astore_n 2, 1), (6, .aload_n 2, 1), (7, .ifnonnull 5, 3), (10, .iconst (-1), 1), (11, .ireturn, 1)]
def pm_mm40 : pm_M := (⟨"LambdaShelf", "typed", "(I)I"⟩, prog_1_method_20_code, 3, (Option.some FieldType.int), 1, 8, false, 887, pm_cc40)
def pm_cc41 : List (Nat × Instr × Nat) := [(0, .aload_n 0, 1), (1, .getfield 159, 3), (4, .ifnonnull 7, 3), (7, .iconst (-1), 1), (8, .goto 14, 3), (22, .ireturn, 1)]
def pm_mm41 : pm_M := (⟨"LambdaShelf", "type", "(I)I"⟩, prog_1_method_21_code, 2, (Option.some FieldType.int), 1, 8, false, 1046, pm_cc41)
def pm_cc42 : List (Nat × Instr × Nat) := [(0, .aload_n 0, 1), (1, .iload_n 1, 1), (2, .invokevirtual 86, 3), (5, .astore_n 3, 1), (6, .aload_n 3, 1), (7, .ifnonnull 5, 3), (10, .iconst (-1), 1), (11, .ireturn, 1)]
def pm_mm42 : pm_M := (⟨"LambdaShelf", "about", "(II)I"⟩, prog_1_method_22_code, 4, (Option.some FieldType.int), 2, 8, false, 1050, pm_cc42)
def pm_cc43 : List (Nat × Instr × Nat) := [(0, .aload_n 0, 1), (1, .getfield 179, 3), (4, .ifCond .ne 6, 3), (7, .bipush (-4), 2), (9, .ireturn, 1)]
def pm_mm43 : pm_M := (⟨"LambdaShelf", "drop", "()I"⟩, prog_1_method_23_code, 1, (Option.some FieldType.int), 0, 8, false, 1063, pm_cc43)
def pm_cc44 : List (Nat × Instr × Nat) := [(0, .iload_n 1, 1), (1, .tableswitch 45 0 2 #[27, 32, 40], 27), (28, .aload_n 0, 1), (29, .getfield 179, 3), (32, .ireturn, 1), (33, .aload_n 0, 1), (34, .getfield 10, 3), (37, .getfield 61, 3), (40, .ireturn, 1), (41, .aload_n 0, 1), (42, .invokevirtual 182, 3), (45, .ireturn, 1), (46, .iconst (-1), 1), (47, .ireturn, 1)]
def pm_mm44 : pm_M := (⟨"LambdaShelf", "count", "(I)I"⟩, prog_1_method_24_code, 2, (Option.some FieldType.int), 1, 8, false, 1067, pm_cc44)
def pm_cc45 : List (Nat × Instr × Nat) := [(0, .iconst 0, 1), (1, .istore_n 1, 1), (2, .iconst 0, 1), (3, .istore_n 2, 1), (4, .iload_n 2, 1), (5, .aload_n 0, 1), (6, .getfield 179, 3), (9, .if_icmp .ge 30, 3), (39, .iload_n 1, 1), (40, .ireturn, 1)]
def pm_mm45 : pm_M := (⟨"LambdaShelf", "allNodes", "()I"⟩, prog_1_method_28_code, 4, (Option.some FieldType.int), 0, 8, false, 1071, pm_cc45)
def pm_cc46 : List (Nat × Instr × Nat) := [(0, .aload_n 0, 1), (1, .invokespecial 1, 3), (4, .aload_n 0, 1), (5, .bipush 32, 2), (7, .newarray .int, 2), (9, .putfield 7, 3), (12, .aload_n 0, 1), (13, .sipush 16000, 3), (16, .newarray .int, 2), (18, .putfield 13, 3), (21, .aload_n 0, 1), (22, .sipush 600, 3), (25, .newarray .int, 2), (27, .putfield 16, 3), (30, .aload_n 0, 1), (31, .sipush 12000, 3), (34, .newarray .int, 2), (36, .putfield 19, 3), (39, .aload_n 0, 1), (40, .sipush 12000, 3), (43, .newarray .int, 2), (45, .putfield 22, 3), (48, .aload_n 0, 1), (49, .sipush 12000, 3), (52, .newarray .int, 2), (54, .putfield 25, 3), (57, .aload_n 0, 1), (58, .bipush 90, 2), (60, .newarray .int, 2), (62, .putfield 28, 3), (65, .aload_n 0, 1), (66, .bipush 90, 2), (68, .newarray .boolean, 2), (70, .putfield 31, 3), (73, .aload_n 0, 1), (74, .bipush 90, 2), (76, .newarray .int, 2), (78, .putfield 35, 3), (81, .aload_n 0, 1), (82, .bipush 41, 2), (84, .newarray .long, 2), (86, .putfield 38, 3), (89, .aload_n 0, 1), (90, .sipush 6000, 3), (93, .newarray .int, 2), (95, .putfield 42, 3), (98, .aload_n 0, 1), (99, .sipush 501, 3), (102, .newarray .boolean, 2), (104, .putfield 45, 3), (107, .aload_n 0, 1), (108, .sipush 501, 3), (111, .newarray .boolean, 2), (113, .putfield 48, 3), (116, .aload_n 0, 1), (117, .sipush 501, 3), (120, .newarray .int, 2), (122, .putfield 51, 3), (125, .aload_n 0, 1), (126, .sipush 12000, 3), (129, .newarray .int, 2), (131, .putfield 54, 3), (134, .aload_n 0, 1), (135, .sipush 12000, 3), (138, .newarray .int, 2), (140, .putfield 57, 3), (143, .aload_n 0, 1), (144, .sipush 9000, 3), (147, .newarray .int, 2), (149, .putfield 60, 3), (152, .aload_n 0, 1), (153, .sipush 9000, 3), (156, .newarray .int, 2), (158, .putfield 63, 3), (161, .aload_n 0, 1), (162, .sipush 9000, 3), (165, .newarray .int, 2), (167, .putfield 66, 3), (170, .aload_n 0, 1), (171, .sipush 20000, 3), (174, .newarray .int, 2), (176, .putfield 69, 3), (179, .aload_n 0, 1), (180, .sipush 20000, 3), (183, .newarray .int, 2), (185, .putfield 72, 3), (188, .aload_n 0, 1), (189, .sipush 9000, 3), (192, .newarray .int, 2), (194, .putfield 75, 3), (197, .aload_n 0, 1), (198, .sipush 9000, 3), (201, .newarray .int, 2), (203, .putfield 78, 3), (206, .aload_n 0, 1), (207, .sipush 500, 3), (210, .newarray .int, 2), (212, .putfield 81, 3), (215, .aload_n 0, 1), (216, .sipush 500, 3), (219, .newarray .int, 2), (221, .putfield 84, 3), (224, .aload_n 0, 1), (225, .sipush 501, 3), (228, .newarray .int, 2), (230, .putfield 87, 3), (233, .aload_n 0, 1), (234, .sipush 501, 3), (237, .newarray .int, 2), (239, .putfield 90, 3), (242, .aload_n 0, 1), (243, .sipush 500, 3), (246, .newarray .int, 2), (248, .putfield 93, 3), (251, .aload_n 0, 1), (252, .sipush 500, 3), (255, .newarray .int, 2), (257, .putfield 96, 3), (260, .aload_n 0, 1), (261, .sipush 9000, 3), (264, .newarray .int, 2), (266, .putfield 99, 3), (269, .aload_n 0, 1), (270, .sipush 9000, 3), (273, .newarray .int, 2), (275, .putfield 102, 3), (278, .return_, 1)]
def pm_mm46 : pm_M := (⟨"LambdaShelfModel", "<init>", "()V"⟩, prog_11_method_1_code, 1, (Option.none : Option FieldType), 0, 9, true, 1076, pm_cc46)
def pm_cc47 : List (Nat × Instr × Nat) := [(0, .aload_n 0, 1), (1, .getfield 105, 3), (4, .bipush 20, 2), (6, .iadd, 1), (7, .sipush 600, 3), (10, .if_icmp .le 6, 3), (16, .aload_n 0, 1), (17, .iload_n 1, 1), (18, .invokevirtual 109, 3), (21, .aload_n 0, 1), (22, .iload_n 2, 1), (23, .invokevirtual 109, 3), (26, .aload_n 0, 1), (27, .iload_n 3, 1), (28, .invokevirtual 109, 3), (31, .aload_n 0, 1), (32, .iload 4, 2), (34, .invokevirtual 109, 3), (37, .aload_n 0, 1), (38, .iload 5, 2), (40, .invokevirtual 109, 3), (43, .aload_n 0, 1), (44, .getfield 105, 3), (47, .ireturn, 1)]
def pm_mm47 : pm_M := (⟨"LambdaShelfModel", "feed", "(IIIII)I"⟩, prog_11_method_5_code, 6, (Option.some FieldType.int), 5, 9, false, 1231, pm_cc47)
def pm_cc48 : List (Nat × Instr × Nat) := [(0, .bipush 24, 2), (2, .istore_n 2, 1), (3, .iload_n 2, 1), (4, .ifCond .lt 35, 3), (7, .aload_n 0, 1), (8, .getfield 16, 3), (11, .aload_n 0, 1), (12, .getfield 105, 3), (15, .iload_n 1, 1), (16, .iload_n 2, 1), (17, .ishr, 1), (18, .sipush 255, 3), (21, .iand, 1), (22, .iastore, 1), (23, .aload_n 0, 1), (24, .dup, 1), (25, .getfield 105, 3), (28, .iconst 1, 1), (29, .iadd, 1), (30, .putfield 105, 3), (33, .iinc 2 (-8), 3), (36, .goto (-33), 3), (39, .return_, 1)]
def pm_mm48 : pm_M := (⟨"LambdaShelfModel", "put", "(I)V"⟩, prog_11_method_4_code, 3, (Option.none : Option FieldType), 1, 9, false, 1235, pm_cc48)
def pm_cc49 : List (Nat × Instr × Nat) := [(0, .iload_n 1, 1), (1, .i2l, 1), (2, .lconst 0, 1), (3, .aload_n 0, 1), (4, .getfield 105, 3), (7, .i2l, 1), (8, .invokestatic 113, 3), (11, .ifCond .ne 5, 3), (14, .iconst (-1), 1), (15, .ireturn, 1), (16, .aload_n 0, 1), (17, .getfield 105, 3), (20, .istore_n 2, 1), (21, .aload_n 0, 1), (22, .iload_n 1, 1), (23, .putfield 105, 3), (26, .iload_n 2, 1), (27, .ireturn, 1)]
def pm_mm49 : pm_M := (⟨"LambdaShelfModel", "end", "(I)I"⟩, prog_11_method_6_code, 3, (Option.some FieldType.int), 1, 9, false, 1239, pm_cc49)
def pm_cc50 : List (Nat × Instr × Nat) := [(0, .lload_n 0, 1), (1, .lload_n 2, 1), (2, .lcmp, 1), (3, .ifCond .lt 14, 3), (6, .lload_n 0, 1), (7, .lload 4, 2), (9, .lcmp, 1), (10, .ifCond .gt 7, 3), (13, .iconst 1, 1), (14, .goto 4, 3), (17, .iconst 0, 1), (18, .ireturn, 1)]
def pm_mm50 : pm_M := (⟨"LambdaShelfModel", "in", "(JJJ)Z"⟩, prog_11_method_3_code, 6, (Option.some FieldType.boolean), 3, 9, false, 1242, pm_cc50)
def pm_cc51 : List (Nat × Instr × Nat) := [(0, .aload_n 0, 1), (1, .getfield 204, 3), (4, .bipush 32, 2), (6, .if_icmp .ne 6, 3), (12, .aload_n 0, 1), (13, .iconst 0, 1), (14, .putfield 120, 3), (17, .aload_n 0, 1), (18, .invokevirtual 207, 3), (21, .aload_n 0, 1), (22, .iconst 0, 1), (23, .putfield 105, 3), (26, .aload_n 0, 1), (27, .getfield 120, 3), (30, .ifCond .le 11, 3), (33, .bipush (-10), 2), (35, .aload_n 0, 1), (36, .getfield 123, 3), (39, .isub, 1), (40, .ireturn, 1)]
def pm_mm51 : pm_M := (⟨"LambdaShelfModel", "term", "()I"⟩, prog_11_method_24_code, 1, (Option.some FieldType.int), 0, 9, false, 1246, pm_cc51)
def pm_cc52 : List (Nat × Instr × Nat) := [(0, .aload_n 0, 1), (1, .iconst 0, 1), (2, .putfield 126, 3), (5, .aload_n 0, 1), (6, .iconst 0, 1), (7, .putfield 117, 3), (10, .aload_n 0, 1), (11, .iconst 0, 1), (12, .putfield 167, 3), (15, .aload_n 0, 1), (16, .iconst 0, 1), (17, .putfield 179, 3), (20, .aload_n 0, 1), (21, .iconst 0, 1), (22, .putfield 182, 3), (25, .aload_n 0, 1), (26, .iconst (-1), 1), (27, .invokevirtual 189, 3), (30, .aload_n 0, 1), (31, .invokevirtual 176, 3), (34, .iconst 1, 1), (35, .istore_n 1, 1), (36, .iload_n 1, 1), (37, .ifCond .eq 262, 3), (40, .aload_n 0, 1), (41, .getfield 120, 3), (44, .ifCond .ne 255, 3), (47, .aload_n 0, 1), (48, .getfield 140, 3), (51, .iconst 1, 1), (52, .if_icmp .ne 10, 3), (62, .aload_n 0, 1), (63, .getfield 140, 3), (66, .iconst 2, 1), (67, .if_icmp .ne 10, 3), (77, .aload_n 0, 1), (78, .getfield 140, 3), (81, .iconst 3, 1), (82, .if_icmp .ne 23, 3), (105, .aload_n 0, 1), (106, .bipush 40, 2), (108, .invokevirtual 185, 3), (111, .ifCond .eq 50, 3), (161, .aload_n 0, 1), (162, .bipush 92, 2), (164, .invokevirtual 185, 3), (167, .ifCond .eq 10, 3), (177, .aload_n 0, 1), (178, .bipush 41, 2), (180, .invokevirtual 185, 3), (183, .ifCond .ne 10, 3), (186, .aload_n 0, 1), (187, .getfield 140, 3), (190, .ifCond .ne 97, 3), (193, .aload_n 0, 1), (194, .invokevirtual 201, 3), (197, .aload_n 0, 1), (198, .getfield 140, 3), (201, .ifCond .eq 7, 3), (208, .iconst 0, 1), (209, .istore_n 1, 1), (210, .aload_n 0, 1), (211, .getfield 120, 3), (214, .ifCond .ne 35, 3), (249, .aload_n 0, 1), (250, .getfield 120, 3), (253, .ifCond .ne (-217), 3), (299, .aload_n 0, 1), (300, .getfield 120, 3), (303, .ifCond .ne 19, 3), (322, .return_, 1)]
def pm_mm52 : pm_M := (⟨"LambdaShelfModel", "readTerm", "()V"⟩, prog_11_method_23_code, 2, (Option.none : Option FieldType), 0, 9, false, 1250, pm_cc52)
def pm_cc53 : List (Nat × Instr × Nat) := [(0, .aload_n 0, 1), (1, .getfield 28, 3), (4, .aload_n 0, 1), (5, .getfield 167, 3), (8, .aload_n 0, 1), (9, .getfield 117, 3), (12, .iastore, 1), (13, .aload_n 0, 1), (14, .getfield 31, 3), (17, .aload_n 0, 1), (18, .getfield 167, 3), (21, .iconst 0, 1), (22, .bastore, 1), (23, .aload_n 0, 1), (24, .getfield 35, 3), (27, .aload_n 0, 1), (28, .getfield 167, 3), (31, .iload_n 1, 1), (32, .iastore, 1), (33, .aload_n 0, 1), (34, .dup, 1), (35, .getfield 167, 3), (38, .iconst 1, 1), (39, .iadd, 1), (40, .putfield 167, 3), (43, .return_, 1)]
def pm_mm53 : pm_M := (⟨"LambdaShelfModel", "level", "(I)V"⟩, prog_11_method_16_code, 2, (Option.none : Option FieldType), 1, 9, false, 1254, pm_cc53)
def pm_cc54 : List (Nat × Instr × Nat) := [(0, .aload_n 0, 1), (1, .invokevirtual 129, 3), (4, .bipush 32, 2), (6, .if_icmp .ne 16, 3), (22, .aload_n 0, 1), (23, .aload_n 0, 1), (24, .getfield 126, 3), (27, .putfield 133, 3), (30, .aload_n 0, 1), (31, .lconst 0, 1), (32, .putfield 136, 3), (35, .aload_n 0, 1), (36, .invokevirtual 129, 3), (39, .istore_n 1, 1), (40, .iload_n 1, 1), (41, .ifCond .ge 11, 3), (44, .aload_n 0, 1), (45, .iconst 0, 1), (46, .putfield 140, 3), (49, .goto 341, 3), (390, .return_, 1)]
def pm_mm54 : pm_M := (⟨"LambdaShelfModel", "next", "()V"⟩, prog_11_method_14_code, 2, (Option.none : Option FieldType), 0, 9, false, 1258, pm_cc54)
def pm_cc55 : List (Nat × Instr × Nat) := [(0, .aload_n 0, 1), (1, .getfield 126, 3), (4, .aload_n 0, 1), (5, .getfield 105, 3), (8, .if_icmp .ge 15, 3), (23, .iconst (-1), 1), (24, .ireturn, 1)]
def pm_mm55 : pm_M := (⟨"LambdaShelfModel", "look", "()I"⟩, prog_11_method_12_code, 1, (Option.some FieldType.int), 0, 9, false, 1262, pm_cc55)
def pm_cc56 : List (Nat × Instr × Nat) := [(0, .aload_n 0, 1), (1, .getfield 120, 3), (4, .ifCond .ne 13, 3), (7, .aload_n 0, 1), (8, .iload_n 1, 1), (9, .putfield 120, 3), (12, .aload_n 0, 1), (13, .iload_n 2, 1), (14, .putfield 123, 3), (17, .return_, 1)]
def pm_mm56 : pm_M := (⟨"LambdaShelfModel", "fails", "(II)V"⟩, prog_11_method_11_code, 3, (Option.none : Option FieldType), 2, 9, false, 1270, pm_cc56)
def pm_cc57 : List (Nat × Instr × Nat) := [(0, .aload_n 0, 1), (1, .getfield 140, 3), (4, .iconst 4, 1), (5, .if_icmp .ne 17, 3), (22, .iconst 0, 1), (23, .ireturn, 1)]
def pm_mm57 : pm_M := (⟨"LambdaShelfModel", "isSign", "(I)Z"⟩, prog_11_method_15_code, 2, (Option.some FieldType.boolean), 1, 9, false, 1297, pm_cc57)
def pm_cc58 : List (Nat × Instr × Nat) := [(0, .aload_n 0, 1), (1, .getfield 120, 3), (4, .ifCond .ne 96, 3), (7, .aload_n 0, 1), (8, .getfield 35, 3), (11, .aload_n 0, 1), (12, .getfield 167, 3), (15, .iconst 1, 1), (16, .isub, 1), (17, .iaload, 1), (18, .ifCond .le 82, 3), (100, .aload_n 0, 1), (101, .getfield 120, 3), (104, .ifCond .ne 26, 3), (107, .aload_n 0, 1), (108, .getfield 31, 3), (111, .aload_n 0, 1), (112, .getfield 167, 3), (115, .iconst 1, 1), (116, .isub, 1), (117, .baload, 1), (118, .ifCond .ne 12, 3), (121, .aload_n 0, 1), (122, .iconst 2, 1), (123, .aload_n 0, 1), (124, .getfield 133, 3), (127, .invokevirtual 151, 3), (130, .return_, 1)]
def pm_mm58 : pm_M := (⟨"LambdaShelfModel", "closes", "()V"⟩, prog_11_method_22_code, 1, (Option.none : Option FieldType), 0, 9, false, 1305, pm_cc58)
def pm_cc59 : List (Nat × Instr × Nat) := [(0, .aload_n 0, 1), (1, .getfield 120, 3), (4, .ireturn, 1)]
def pm_mm59 : pm_M := (⟨"LambdaShelfModel", "fault", "()I"⟩, prog_11_method_25_code, 1, (Option.some FieldType.int), 0, 9, false, 1313, pm_cc59)
def pm_cc60 : List (Nat × Instr × Nat) := [(0, .aload_n 0, 1), (1, .iload_n 1, 1), (2, .invokevirtual 213, 3), (5, .ifCond .eq 12, 3), (17, .iconst (-1), 1), (18, .ireturn, 1)]
def pm_mm60 : pm_M := (⟨"LambdaShelfModel", "size", "(I)I"⟩, prog_11_method_27_code, 2, (Option.some FieldType.int), 1, 9, false, 1317, pm_cc60)
def pm_cc61 : List (Nat × Instr × Nat) := [(0, .iload_n 1, 1), (1, .i2l, 1), (2, .lconst 0, 1), (3, .aload_n 0, 1), (4, .getfield 204, 3), (7, .iconst 1, 1), (8, .isub, 1), (9, .i2l, 1), (10, .invokestatic 113, 3), (13, .ireturn, 1)]
def pm_mm61 : pm_M := (⟨"LambdaShelfModel", "isTerm", "(I)Z"⟩, prog_11_method_26_code, 2, (Option.some FieldType.boolean), 1, 9, false, 1321, pm_cc61)
def pm_cc62 : List (Nat × Instr × Nat) := [(0, .aload_n 0, 1), (1, .iload_n 1, 1), (2, .invokevirtual 213, 3), (5, .ifCond .eq 36, 3), (41, .iconst (-1), 1), (42, .ireturn, 1)]
def pm_mm62 : pm_M := (⟨"LambdaShelfModel", "code", "(II)I"⟩, prog_11_method_28_code, 3, (Option.some FieldType.int), 2, 9, false, 1325, pm_cc62)
def pm_cc63 : List (Nat × Instr × Nat) := [(0, .aload_n 0, 1), (1, .iload_n 1, 1), (2, .invokevirtual 213, 3), (5, .ifCond .ne 5, 3), (8, .iconst (-1), 1), (9, .ireturn, 1)]
def pm_mm63 : pm_M := (⟨"LambdaShelfModel", "letter", "(II)I"⟩, prog_11_method_32_code, 3, (Option.some FieldType.int), 2, 9, false, 1329, pm_cc63)
def pm_cc64 : List (Nat × Instr × Nat) := [(0, .aload_n 0, 1), (1, .iload_n 1, 1), (2, .invokevirtual 213, 3), (5, .ifCond .eq 11, 3), (16, .iconst (-1), 1), (17, .ireturn, 1)]
def pm_mm64 : pm_M := (⟨"LambdaShelfModel", "apply", "(II)I"⟩, prog_11_method_33_code, 4, (Option.some FieldType.int), 2, 9, false, 1357, pm_cc64)
def pm_cc65 : List (Nat × Instr × Nat) := [(0, .aload_n 0, 1), (1, .iload_n 1, 1), (2, .invokevirtual 213, 3), (5, .ifCond .ne 5, 3), (8, .iconst (-1), 1), (9, .ireturn, 1)]
def pm_mm65 : pm_M := (⟨"LambdaShelfModel", "copy", "(I)I"⟩, prog_11_method_34_code, 2, (Option.some FieldType.int), 1, 9, false, 1361, pm_cc65)
def pm_cc66 : List (Nat × Instr × Nat) := [(0, .aload_n 0, 1), (1, .iload_n 1, 1), (2, .invokevirtual 213, 3), (5, .ifCond .eq 11, 3), (16, .iconst (-1), 1), (17, .ireturn, 1)]
def pm_mm66 : pm_M := (⟨"LambdaShelfModel", "same", "(II)I"⟩, prog_11_method_35_code, 5, (Option.some FieldType.int), 2, 9, false, 1365, pm_cc66)
def pm_cc67 : List (Nat × Instr × Nat) := [(0, .aload_n 0, 1), (1, .iload_n 1, 1), (2, .invokevirtual 213, 3), (5, .ifCond .eq 15, 3), (20, .iconst (-1), 1), (21, .ireturn, 1)]
def pm_mm67 : pm_M := (⟨"LambdaShelfModel", "step", "(II)I"⟩, prog_11_method_47_code, 4, (Option.some FieldType.int), 2, 9, false, 1369, pm_cc67)
def pm_cc68 : List (Nat × Instr × Nat) := [(0, .aload_n 0, 1), (1, .iload_n 1, 1), (2, .invokevirtual 213, 3), (5, .ifCond .eq 27, 3), (32, .iconst (-1), 1), (33, .ireturn, 1)]
def pm_mm68 : pm_M := (⟨"LambdaShelfModel", "steps", "(III)I"⟩, prog_11_method_48_code, 7, (Option.some FieldType.int), 3, 9, false, 1418, pm_cc68)
def pm_cc69 : List (Nat × Instr × Nat) := [(0, .iload_n 1, 1), (1, .ifCond .ne 10, 3), (4, .aload_n 0, 1), (5, .getfield 278, 3), (8, .goto 16, 3), (11, .iload_n 1, 1), (12, .iconst 1, 1), (13, .if_icmp .ne 10, 3), (16, .aload_n 0, 1), (17, .getfield 281, 3), (20, .goto 4, 3), (23, .iconst (-1), 1), (24, .ireturn, 1)]
def pm_mm69 : pm_M := (⟨"LambdaShelfModel", "told", "(I)I"⟩, prog_11_method_49_code, 2, (Option.some FieldType.int), 1, 9, false, 1423, pm_cc69)
def pm_cc70 : List (Nat × Instr × Nat) := [(0, .aload_n 0, 1), (1, .iload_n 1, 1), (2, .invokevirtual 213, 3), (5, .ifCond .eq 15, 3), (20, .iconst (-1), 1), (21, .ireturn, 1)]
def pm_mm70 : pm_M := (⟨"LambdaShelfModel", "redex", "(II)I"⟩, prog_11_method_50_code, 3, (Option.some FieldType.int), 2, 9, false, 1427, pm_cc70)
def pm_cc71 : List (Nat × Instr × Nat) := [(0, .aload_n 0, 1), (1, .iload_n 1, 1), (2, .invokevirtual 213, 3), (5, .ifCond .ne 5, 3), (8, .iconst (-1), 1), (9, .ireturn, 1)]
def pm_mm71 : pm_M := (⟨"LambdaShelfModel", "redexes", "(I)I"⟩, prog_11_method_52_code, 2, (Option.some FieldType.int), 1, 9, false, 1431, pm_cc71)
def pm_cc72 : List (Nat × Instr × Nat) := [(0, .aload_n 0, 1), (1, .iload_n 1, 1), (2, .invokevirtual 213, 3), (5, .ifCond .ne 5, 3), (8, .iconst (-1), 1), (9, .ireturn, 1)]
def pm_mm72 : pm_M := (⟨"LambdaShelfModel", "abstracted", "(I)I"⟩, prog_11_method_57_code, 2, (Option.some FieldType.int), 1, 9, false, 1439, pm_cc72)
def pm_cc73 : List (Nat × Instr × Nat) := [(0, .aload_n 0, 1), (1, .iload_n 1, 1), (2, .invokevirtual 213, 3), (5, .ifCond .ne 5, 3), (8, .iconst (-1), 1), (9, .ireturn, 1)]
def pm_mm73 : pm_M := (⟨"LambdaShelfModel", "number", "(I)I"⟩, prog_11_method_59_code, 2, (Option.some FieldType.int), 1, 9, false, 1459, pm_cc73)
def pm_cc74 : List (Nat × Instr × Nat) := [(0, .aload_n 0, 1), (1, .iload_n 1, 1), (2, .invokevirtual 213, 3), (5, .ifCond .eq 15, 3), (20, .iconst (-1), 1), (21, .ireturn, 1)]
def pm_mm74 : pm_M := (⟨"LambdaShelfModel", "read", "(II)I"⟩, prog_11_method_60_code, 5, (Option.some FieldType.int), 2, 9, false, 1467, pm_cc74)
def pm_cc75 : List (Nat × Instr × Nat) := [(0, .aload_n 0, 1), (1, .iload_n 1, 1), (2, .invokevirtual 213, 3), (5, .ifCond .ne 5, 3), (8, .iconst (-1), 1), (9, .ireturn, 1)]
def pm_mm75 : pm_M := (⟨"LambdaShelfModel", "typed", "(I)I"⟩, prog_11_method_69_code, 5, (Option.some FieldType.int), 1, 9, false, 1471, pm_cc75)
def pm_cc76 : List (Nat × Instr × Nat) := [(0, .iload_n 1, 1), (1, .i2l, 1), (2, .lconst 0, 1), (3, .aload_n 0, 1), (4, .getfield 332, 3), (7, .iconst 1, 1), (8, .isub, 1), (9, .i2l, 1), (10, .invokestatic 113, 3), (13, .ifCond .eq 12, 3), (25, .iconst (-1), 1), (26, .ireturn, 1)]
def pm_mm76 : pm_M := (⟨"LambdaShelfModel", "type", "(I)I"⟩, prog_11_method_70_code, 2, (Option.some FieldType.int), 1, 9, false, 1507, pm_cc76)
def pm_cc77 : List (Nat × Instr × Nat) := [(0, .aload_n 0, 1), (1, .iload_n 1, 1), (2, .invokevirtual 213, 3), (5, .ifCond .eq 15, 3), (20, .iconst (-1), 1), (21, .ireturn, 1)]
def pm_mm77 : pm_M := (⟨"LambdaShelfModel", "about", "(II)I"⟩, prog_11_method_71_code, 7, (Option.some FieldType.int), 2, 9, false, 1511, pm_cc77)
def pm_cc78 : List (Nat × Instr × Nat) := [(0, .aload_n 0, 1), (1, .getfield 204, 3), (4, .ifCond .ne 6, 3), (7, .bipush (-4), 2), (9, .ireturn, 1)]
def pm_mm78 : pm_M := (⟨"LambdaShelfModel", "drop", "()I"⟩, prog_11_method_72_code, 1, (Option.some FieldType.int), 0, 9, false, 1518, pm_cc78)
def pm_cc79 : List (Nat × Instr × Nat) := [(0, .iconst 0, 1), (1, .istore_n 2, 1), (2, .iconst 0, 1), (3, .istore_n 3, 1), (4, .iload_n 3, 1), (5, .aload_n 0, 1), (6, .getfield 204, 3), (9, .if_icmp .ge 18, 3), (27, .iload_n 1, 1), (28, .ifCond .ne 10, 3), (31, .aload_n 0, 1), (32, .getfield 204, 3), (35, .goto 25, 3), (38, .iload_n 1, 1), (39, .iconst 1, 1), (40, .if_icmp .ne 10, 3), (43, .aload_n 0, 1), (44, .getfield 105, 3), (47, .goto 13, 3), (50, .iload_n 1, 1), (51, .iconst 2, 1), (52, .if_icmp .ne 7, 3), (55, .iload_n 2, 1), (56, .goto 4, 3), (59, .iconst (-1), 1), (60, .ireturn, 1)]
def pm_mm79 : pm_M := (⟨"LambdaShelfModel", "count", "(I)I"⟩, prog_11_method_73_code, 4, (Option.some FieldType.int), 1, 9, false, 1522, pm_cc79)
def pm_g0 : List pm_M := [pm_mm0, pm_mm1, pm_mm2, pm_mm3, pm_mm4, pm_mm5, pm_mm6, pm_mm7, pm_mm8, pm_mm9, pm_mm10, pm_mm11, pm_mm12, pm_mm13, pm_mm14, pm_mm15, pm_mm16, pm_mm17, pm_mm18, pm_mm19]
def pm_g1 : List pm_M := [pm_mm20, pm_mm21, pm_mm22, pm_mm23, pm_mm24, pm_mm25, pm_mm26, pm_mm27, pm_mm28, pm_mm29, pm_mm30, pm_mm31, pm_mm32, pm_mm33, pm_mm34, pm_mm35, pm_mm36, pm_mm37, pm_mm38, pm_mm39]
def pm_g2 : List pm_M := [pm_mm40, pm_mm41, pm_mm42, pm_mm43, pm_mm44, pm_mm45, pm_mm46, pm_mm47, pm_mm48, pm_mm49, pm_mm50, pm_mm51, pm_mm52, pm_mm53, pm_mm54, pm_mm55, pm_mm56, pm_mm57, pm_mm58, pm_mm59]
def pm_g3 : List pm_M := [pm_mm60, pm_mm61, pm_mm62, pm_mm63, pm_mm64, pm_mm65, pm_mm66, pm_mm67, pm_mm68, pm_mm69, pm_mm70, pm_mm71, pm_mm72, pm_mm73, pm_mm74, pm_mm75, pm_mm76, pm_mm77, pm_mm78, pm_mm79]
def pm_tab : List pm_M := pm_g0 ++ (pm_g1 ++ (pm_g2 ++ (pm_g3)))
def pm_fls : List (String × List (Nat × Nat × Nat × Nat × Nat)) := [("LambdaShelf$Abstracter", []), ("LambdaShelf$Code", [(15, 1, 0, 2, 174), (21, 1, 1, 0, 175), (25, 1, 2, 0, 184)]), ("LambdaShelf$Reader", [(9, 2, 0, 2, 214), (15, 2, 1, 2, 215), (18, 2, 2, 2, 216), (21, 2, 3, 2, 217), (25, 2, 4, 0, 218), (29, 2, 6, 0, 220), (32, 2, 7, 0, 221), (35, 2, 10, 0, 224), (38, 2, 11, 0, 225), (41, 2, 12, 0, 226), (54, 2, 8, 0, 222), (63, 4, 1, 1, 157), (72, 2, 9, 0, 223), (140, 2, 5, 0, 219)]), ("LambdaShelf$Shape", [(11, 3, 0, 2, 201), (17, 3, 1, 2, 202)]), ("LambdaShelf$Tape", [(9, 4, 0, 2, 154), (15, 4, 1, 0, 156)]), ("LambdaShelf$Teller", [(9, 5, 0, 2, 261)]), ("LambdaShelf$Turner", [(14, 6, 1, 2, 289), (20, 6, 0, 2, 288)]), ("LambdaShelf$Typer", []), ("LambdaShelf", [(10, 8, 0, 2, 295), (18, 8, 1, 2, 296), (25, 8, 2, 2, 297), (32, 8, 3, 2, 298), (41, 8, 4, 2, 299), (48, 8, 5, 2, 300), (57, 8, 6, 2, 301), (61, 4, 1, 1, 155), (76, 8, 10, 0, 305), (83, 2, 12, 1, 227), (124, 8, 12, 0, 307), (127, 8, 11, 0, 306), (159, 8, 8, 0, 303), (179, 8, 9, 0, 304)]), ("LambdaShelfModel", [(7, 9, 1, 2, 1079), (13, 9, 2, 2, 1080), (16, 9, 3, 2, 1081), (19, 9, 5, 2, 1083), (22, 9, 7, 2, 1085), (25, 9, 8, 2, 1086), (28, 9, 15, 2, 1093), (31, 9, 16, 2, 1094), (35, 9, 17, 2, 1095), (38, 9, 19, 2, 1097), (42, 9, 22, 2, 1100), (45, 9, 24, 2, 1102), (48, 9, 25, 2, 1103), (51, 9, 26, 2, 1104), (54, 9, 27, 2, 1105), (57, 9, 29, 2, 1107), (60, 9, 33, 2, 1111), (63, 9, 34, 2, 1112), (66, 9, 35, 2, 1113), (69, 9, 36, 2, 1114), (72, 9, 37, 2, 1115), (75, 9, 38, 2, 1116), (78, 9, 39, 2, 1117), (81, 9, 40, 2, 1118), (84, 9, 41, 2, 1119), (87, 9, 42, 2, 1120), (90, 9, 43, 2, 1121), (93, 9, 44, 2, 1122), (96, 9, 46, 2, 1124), (99, 9, 47, 2, 1125), (102, 9, 48, 2, 1126), (105, 9, 4, 0, 1082), (117, 9, 6, 0, 1084), (120, 9, 13, 0, 1091), (123, 9, 14, 0, 1092), (126, 9, 9, 0, 1087), (133, 9, 10, 0, 1088), (136, 9, 12, 0, 1090), (140, 9, 11, 0, 1089), (167, 9, 18, 0, 1096), (179, 9, 20, 0, 1098), (182, 9, 21, 0, 1099), (204, 9, 0, 0, 1078), (278, 9, 30, 0, 1108), (281, 9, 31, 0, 1109), (332, 9, 45, 0, 1123)]), ("LambdaShelfLaw", [])]
def pm_mls : List (String × List (Nat × Nat × Nat × Nat × Nat × Nat)) := [("LambdaShelf$Abstracter", []), ("LambdaShelf$Code", [(3, 4, 0, 170, 146, 147), (9, 5, 0, 171, 172, 173)]), ("LambdaShelf$Reader", [(3, 4, 0, 213, 146, 147), (44, 0, 15, 363, 365, 1), (47, 0, 17, 371, 373, 3), (57, 0, 18, 375, 377, 4), (60, 0, 21, 490, 492, 9), (68, 0, 19, 379, 380, 381), (95, 0, 20, 390, 392, 6), (115, 0, 23, 534, 536, 20), (121, 0, 16, 367, 369, 2), (133, 0, 22, 530, 532, 19)]), ("LambdaShelf$Shape", [(3, 4, 0, 200, 146, 147)]), ("LambdaShelf$Tape", [(3, 4, 0, 153, 146, 147)]), ("LambdaShelf$Teller", [(3, 4, 0, 260, 146, 147)]), ("LambdaShelf$Turner", [(3, 4, 0, 285, 146, 147), (11, 1, 3, 287, 168, 0)]), ("LambdaShelf$Typer", []), ("LambdaShelf", [(1, 4, 0, 145, 146, 147), (9, 2, 2, 150, 151, 0), (22, 1, 3, 167, 168, 0), (31, 2, 4, 197, 198, 0), (38, 1, 5, 210, 211, 0), (47, 2, 6, 257, 258, 0), (54, 1, 7, 282, 283, 0), (65, 0, 9, 339, 340, 341), (68, 0, 12, 351, 353, 0), (72, 0, 14, 359, 360, 361), (86, 0, 26, 565, 567, 23), (182, 0, 45, 1068, 1070, 75), (185, 0, 13, 355, 356, 357)]), ("LambdaShelfModel", [(1, 4, 0, 1077, 146, 147), (109, 0, 48, 1232, 1234, 76), (113, 3, 50, 1240, 1241, 0), (129, 0, 55, 1259, 1261, 80), (151, 0, 56, 1267, 1269, 81), (176, 0, 54, 1255, 1257, 79), (185, 0, 57, 1294, 1296, 86), (189, 0, 53, 1251, 1253, 78), (201, 0, 58, 1302, 1304, 88), (207, 0, 52, 1247, 1249, 77), (213, 0, 61, 1318, 1320, 90)]), ("LambdaShelfLaw", [(9, 1, 1, 142, 143, 0), (12, 1, 46, 1074, 1075, 0), (13, 0, 8, 335, 336, 337), (17, 0, 47, 1228, 1229, 1230), (18, 0, 10, 343, 344, 345), (22, 0, 49, 1236, 1237, 1238), (23, 0, 11, 347, 348, 349), (27, 0, 51, 1243, 1244, 1245), (28, 0, 24, 557, 558, 559), (31, 0, 59, 1310, 1311, 1312), (32, 0, 25, 561, 562, 563), (35, 0, 60, 1314, 1315, 1316), (36, 0, 27, 569, 570, 571), (40, 0, 62, 1322, 1323, 1324), (41, 0, 28, 577, 578, 579), (44, 0, 63, 1326, 1327, 1328), (45, 0, 29, 636, 637, 638), (48, 0, 64, 1354, 1355, 1356), (49, 0, 30, 652, 653, 654), (52, 0, 65, 1358, 1359, 1360), (53, 0, 31, 656, 657, 658), (56, 0, 66, 1362, 1363, 1364), (57, 0, 32, 665, 666, 667), (60, 0, 67, 1366, 1367, 1368), (61, 0, 33, 768, 769, 770), (65, 0, 68, 1415, 1416, 1417), (66, 0, 34, 776, 777, 778), (69, 0, 69, 1420, 1421, 1422), (70, 0, 35, 780, 781, 782), (73, 0, 70, 1424, 1425, 1426), (74, 0, 36, 785, 786, 787), (77, 0, 71, 1428, 1429, 1430), (78, 0, 37, 793, 794, 795), (81, 0, 72, 1436, 1437, 1438), (82, 0, 38, 866, 867, 868), (85, 0, 73, 1456, 1457, 1458), (86, 0, 39, 876, 877, 878), (89, 0, 74, 1464, 1465, 1466), (90, 0, 40, 884, 885, 886), (93, 0, 75, 1468, 1469, 1470), (94, 0, 41, 1043, 1044, 1045), (97, 0, 76, 1504, 1505, 1506), (98, 0, 42, 1047, 1048, 1049), (101, 0, 77, 1508, 1509, 1510), (102, 0, 43, 1060, 1061, 1062), (105, 0, 78, 1515, 1516, 1517), (106, 0, 44, 1064, 1065, 1066), (109, 0, 79, 1519, 1520, 1521)])]
def pm_nls : List (String × List (Nat × Nat × Nat)) := [("LambdaShelf$Abstracter", []), ("LambdaShelf$Code", []), ("LambdaShelf$Reader", []), ("LambdaShelf$Shape", []), ("LambdaShelf$Tape", []), ("LambdaShelf$Teller", []), ("LambdaShelf$Turner", [(9, 1, 286)]), ("LambdaShelf$Typer", []), ("LambdaShelf", [(7, 4, 148), (16, 1, 164), (29, 3, 195), (36, 2, 208), (45, 5, 255), (52, 6, 280)]), ("LambdaShelfModel", []), ("LambdaShelfLaw", [(7, 8, 140), (10, 9, 1072)])]
def pm_als : List (String × List (Nat × Nat)) := [("LambdaShelf$Abstracter", []), ("LambdaShelf$Code", []), ("LambdaShelf$Reader", []), ("LambdaShelf$Shape", []), ("LambdaShelf$Tape", []), ("LambdaShelf$Teller", []), ("LambdaShelf$Turner", []), ("LambdaShelf$Typer", []), ("LambdaShelf", [(16, 164)]), ("LambdaShelfModel", []), ("LambdaShelfLaw", [])]
def pm_lls : List (String × List (Nat × Int64 × Nat)) := [("LambdaShelf$Abstracter", []), ("LambdaShelf$Code", []), ("LambdaShelf$Reader", []), ("LambdaShelf$Shape", []), ("LambdaShelf$Tape", []), ("LambdaShelf$Teller", []), ("LambdaShelf$Turner", []), ("LambdaShelf$Typer", []), ("LambdaShelf", []), ("LambdaShelfModel", []), ("LambdaShelfLaw", [])]
def pm_ow (c : Nat) : String := (pm_fls.getD c ("", [])).1
def pm_fr (c idx : Nat) : Option (Nat × Nat × Nat × Nat) := pm_as (pm_fls.getD c ("", [])).2 idx
def pm_mr (c idx : Nat) : Option (Nat × Nat × Nat × Nat × Nat) := pm_as (pm_mls.getD c ("", [])).2 idx
def pm_nr (c idx : Nat) : Option (Nat × Nat) := pm_as (pm_nls.getD c ("", [])).2 idx
def pm_ar (c idx : Nat) : Option Nat := pm_as (pm_als.getD c ("", [])).2 idx
def pm_lk (c idx : Nat) : Option (Int64 × Nat) := pm_as (pm_lls.getD c ("", [])).2 idx
def pm_arp : List (ArrayType × Nat) := [(.int, 163), (.boolean, 1226), (.long, 1227)]
def pm_cwp : List (List Nat × Nat × Nat) := [([811, 813, 815, 817, 819, 821], 798, 138), ([188, 190, 192], 166, 125), ([228, 230, 232, 234, 236, 238, 240, 242, 244, 246, 248, 250, 252], 209, 128), ([203, 205], 196, 127), ([158, 160], 149, 124), ([267, 269, 271, 273, 275, 277], 256, 129), ([290, 292], 281, 130), ([910, 912, 914, 916, 918, 920, 922, 924, 926, 928, 930, 932, 934], 889, 139), ([308, 310, 312, 314, 316, 318, 320, 322, 324, 326, 328, 330, 332], 141, 123), ([1127, 1129, 1131, 1133, 1135, 1137, 1139, 1141, 1143, 1145, 1147, 1149, 1151, 1153, 1155, 1157, 1159, 1161, 1163, 1165, 1167, 1169, 1171, 1173, 1175, 1177, 1179, 1181, 1183, 1185, 1187, 1189, 1191, 1193, 1195, 1197, 1199, 1201, 1203, 1205, 1207, 1209, 1211, 1213, 1215, 1217, 1219, 1221, 1223], 1073, 131)]
end
section
/-! THE TABLES HOLD: by evaluation -/
def pm_tb : List Cond := lw_tbl.filter goodWord
def pm_at (p : Nat) (w : Cond) : Bool := decide (lw_tbl[p]? = some w)
theorem pm_at_mem {p : Nat} {w : Cond} (h : pm_at p w = true) : w ∈ lw_tbl := List.mem_of_getElem? (of_decide_eq_true h)
theorem pm_at_good {p : Nat} {w : Cond} (h : pm_at p w = true) (hg : goodWord w = true) : w ∈ pm_tb := List.mem_filter.mpr ⟨pm_at_mem h, hg⟩
def pm_fck (own : String) (q : Nat × Nat × Nat × Nat × Nat) : Bool := match pm_cl[q.2.1]? with
  | some c => decide (q.2.2.1 < c.2.2) && decide ((c.2.1 q.2.2.1).1 = c.1) && (match q.2.2.2.1 with
    | 0 => decide ((c.2.1 q.2.2.1).2.2.2 = false) && pm_at q.2.2.2.2 (.fieldLink own q.1 c.1 (c.2.1 q.2.2.1).2.1 (c.2.1 q.2.2.1).2.2.1)
    | 1 => decide ((c.2.1 q.2.2.1).2.2.2 = false) && pm_at q.2.2.2.2 (.fieldLinkNest own q.1 c.1 (c.2.1 q.2.2.1).2.1 (c.2.1 q.2.2.1).2.2.1 "LambdaShelf")
    | 2 => decide ((c.2.1 q.2.2.1).2.2.2 = true) && pm_at q.2.2.2.2 (.fieldLink own q.1 c.1 (c.2.1 q.2.2.1).2.1 (c.2.1 q.2.2.1).2.2.1)
    | 3 => decide ((c.2.1 q.2.2.1).2.2.2 = true) && pm_at q.2.2.2.2 (.fieldLinkNest own q.1 c.1 (c.2.1 q.2.2.1).2.1 (c.2.1 q.2.2.1).2.2.1 "LambdaShelf")
    | _ => false)
  | none => false
theorem pm_fls_ok : pm_fls.all (fun z => z.2.all (pm_fck z.1)) = true := by decide +kernel
def pm_mck (own : String) (q : Nat × Nat × Nat × Nat × Nat × Nat) : Bool := match q.2.1 with
  | 4 => pm_at q.2.2.2.1 (.methodLink own q.1 Lib.objectInit) && pm_at q.2.2.2.2.1 (.instanceMethod Lib.objectInit) && pm_at q.2.2.2.2.2 (.code Lib.objectInit ⟨#[0xb1]⟩ 1 none)
  | 5 => pm_at q.2.2.2.1 (.methodLink own q.1 Lib.Math.max.name) && pm_at q.2.2.2.2.1 (.static Lib.Math.max.name) && pm_at q.2.2.2.2.2 (.code Lib.Math.max.name Lib.Math.max.code 2 (some .int))
  | 6 => pm_at q.2.2.2.1 (.methodLink own q.1 Lib.Math.min.name) && pm_at q.2.2.2.2.1 (.static Lib.Math.min.name) && pm_at q.2.2.2.2.2 (.code Lib.Math.min.name Lib.Math.min.code 2 (some .int))
  | 7 => pm_at q.2.2.2.1 (.methodLink own q.1 arraycopyName) && pm_at q.2.2.2.2.1 (.static arraycopyName) && pm_at q.2.2.2.2.2 (.native arraycopyName)
  | k => match pm_tab[q.2.2.1]? with
    | some T => match k with
      | 0 => pm_at q.2.2.2.1 (.methodLink own q.1 (pm_nm T)) && pm_at q.2.2.2.2.1 (.instanceMethod (pm_nm T)) && pm_at q.2.2.2.2.2 (.selects (pm_nm T).cls (pm_nm T) (pm_nm T)) && decide ((pm_cl.getD (pm_cn T) ("", pm_F0, 0)).1 = (pm_nm T).cls)
      | 1 => pm_at q.2.2.2.1 (.methodLink own q.1 (pm_nm T)) && pm_at q.2.2.2.2.1 (.instanceMethod (pm_nm T)) && decide ((pm_nm T).name = "<init>") && decide (pm_re T = none)
      | 2 => pm_at q.2.2.2.1 (.methodLinkNest own q.1 (pm_nm T) "LambdaShelf") && pm_at q.2.2.2.2.1 (.instanceMethod (pm_nm T)) && decide ((pm_nm T).name = "<init>") && decide (pm_re T = none)
      | 3 => pm_at q.2.2.2.1 (.methodLink own q.1 (pm_nm T)) && pm_at q.2.2.2.2.1 (.static (pm_nm T))
      | _ => false
    | none => false
theorem pm_mls_ok : pm_mls.all (fun z => z.2.all (pm_mck z.1)) = true := by decide +kernel
def pm_nck (own : String) (q : Nat × Nat × Nat) : Bool := match pm_cl[q.2.1]? with
  | some c => pm_at q.2.2 (.classLink own q.1 c.1)
  | none => false
theorem pm_nls_ok : pm_nls.all (fun z => z.2.all (pm_nck z.1)) = true := by decide +kernel
theorem pm_als_ok : pm_als.all (fun z => z.2.all (fun q => pm_at q.2 (.classLink z.1 q.1 "LambdaShelf$Code"))) = true := by decide +kernel
theorem pm_lls_ok : pm_lls.all (fun z => z.2.all (fun q => pm_at q.2.2 (.constantLong z.1 q.1 q.2.1))) = true := by decide +kernel
theorem pm_ows_ok : pm_fls.map (fun z => z.1) = pm_mls.map (fun z => z.1) ∧ pm_fls.map (fun z => z.1) = pm_nls.map (fun z => z.1) ∧ pm_fls.map (fun z => z.1) = pm_als.map (fun z => z.1) ∧ pm_fls.map (fun z => z.1) = pm_lls.map (fun z => z.1) := by decide +kernel
theorem pm_ini_ok : pm_at 126 (.initialized "java/lang/Math") = true ∧ pm_at 137 (.initialized "java/lang/System") = true ∧ pm_at 165 (.arrayOver (.object "LambdaShelf$Code")) = true := by decide +kernel
theorem pm_arp_ok : pm_arp.all (fun q => pm_at q.2 (.arrayClass (newarray.typeOf q.1))) = true := by decide +kernel
def pm_tck (T : pm_M) : Bool := decide (pm_ow (pm_cn T) = (pm_nm T).cls) && (!(pm_ini T) || decide ((pm_nm T).name = "<init>")) && (decide (pm_ps T = 0) || (pm_at (pm_cwp.getD (pm_cn T) ([], 0, 0)).2.2 (.initialized (pm_nm T).cls) && plainName (pm_nm T).cls && decide ((pm_nm T).cls ≠ "java/lang/invoke/MethodHandle") && decide ((pm_nm T).cls ≠ "java/lang/invoke/VarHandle") && decide ((parseMethodDescriptor (pm_nm T).desc).map (fun d => d.parameters.length) = some (pm_na T)) && decide (pm_ml T ≤ 21)))
def pm_dck (T : pm_M) : Bool := (pm_cd T).all (fun q => decide (decode (pm_by T) q.1 = .ok q.2) && (pm_isw q.2.1 || decide (q.2.2 = pm_len q.2.1)))
def pm_cck (ci : Nat) (ps : List Nat × Nat × Nat) : Bool := match pm_cl[ci]?, pm_dfs[ci]? with
  | some c, some fs => (List.range c.2.2).all (fun k => decide (parseFieldDescriptor (c.2.1 k).2.2.1 = some (pm_fty ci k)) && pm_at (ps.1.getD k 0) (u_lay c.1 c.2.1 k) && decide (defaultValue (pm_fty ci k) = vp_V fs k) && (List.range c.2.2).all (fun j => decide (j = k) || decide ((c.2.1 k).2.1 ≠ (c.2.1 j).2.1))) && pm_at ps.2.1 (.instantiable c.1 c.2.2) && pm_at ps.2.2 (.initialized c.1) && decide (fs.length = c.2.2)
  | _, _ => false
theorem pm_cck_ok : (List.range pm_cl.length).all (fun ci => pm_cck ci (pm_cwp.getD ci ([], 0, 0))) = true := by decide +kernel
end
section
/-! the methods of group 0: their words, their instructions -/
set_option maxRecDepth 100000 in
theorem pm_kk1 : Cond.code (pm_nm pm_mm1) (pm_by pm_mm1) (pm_ml pm_mm1) (pm_re pm_mm1) ∈ lw_tbl := List.mem_append_right _ (List.mem_append_left _ (List.mem_of_getElem? (i := 22) rfl))
set_option maxRecDepth 100000 in
theorem pm_kk2 : Cond.code (pm_nm pm_mm2) (pm_by pm_mm2) (pm_ml pm_mm2) (pm_re pm_mm2) ∈ lw_tbl := List.mem_append_right _ (List.mem_append_left _ (List.mem_of_getElem? (i := 30) rfl))
set_option maxRecDepth 100000 in
theorem pm_kk3 : Cond.code (pm_nm pm_mm3) (pm_by pm_mm3) (pm_ml pm_mm3) (pm_re pm_mm3) ∈ lw_tbl := List.mem_append_right _ (List.mem_append_left _ (List.mem_of_getElem? (i := 47) rfl))
set_option maxRecDepth 100000 in
theorem pm_kk4 : Cond.code (pm_nm pm_mm4) (pm_by pm_mm4) (pm_ml pm_mm4) (pm_re pm_mm4) ∈ lw_tbl := List.mem_append_right _ (List.mem_append_left _ (List.mem_of_getElem? (i := 77) rfl))
set_option maxRecDepth 100000 in
theorem pm_kk5 : Cond.code (pm_nm pm_mm5) (pm_by pm_mm5) (pm_ml pm_mm5) (pm_re pm_mm5) ∈ lw_tbl := List.mem_append_right _ (List.mem_append_left _ (List.mem_of_getElem? (i := 90) rfl))
set_option maxRecDepth 100000 in
theorem pm_kk6 : Cond.code (pm_nm pm_mm6) (pm_by pm_mm6) (pm_ml pm_mm6) (pm_re pm_mm6) ∈ lw_tbl := List.mem_append_right _ (List.mem_append_left _ (List.mem_of_getElem? (i := 137) rfl))
set_option maxRecDepth 100000 in
theorem pm_kk7 : Cond.code (pm_nm pm_mm7) (pm_by pm_mm7) (pm_ml pm_mm7) (pm_re pm_mm7) ∈ lw_tbl := List.mem_append_right _ (List.mem_append_left _ (List.mem_of_getElem? (i := 162) rfl))
set_option maxRecDepth 100000 in
theorem pm_kk8 : Cond.code (pm_nm pm_mm8) (pm_by pm_mm8) (pm_ml pm_mm8) (pm_re pm_mm8) ∈ lw_tbl := List.mem_append_right _ (List.mem_append_left _ (List.mem_of_getElem? (i := 216) rfl))
set_option maxRecDepth 100000 in
theorem pm_kk9 : Cond.code (pm_nm pm_mm9) (pm_by pm_mm9) (pm_ml pm_mm9) (pm_re pm_mm9) ∈ lw_tbl := List.mem_append_right _ (List.mem_append_left _ (List.mem_of_getElem? (i := 220) rfl))
set_option maxRecDepth 100000 in
theorem pm_kk10 : Cond.code (pm_nm pm_mm10) (pm_by pm_mm10) (pm_ml pm_mm10) (pm_re pm_mm10) ∈ lw_tbl := List.mem_append_right _ (List.mem_append_left _ (List.mem_of_getElem? (i := 224) rfl))
set_option maxRecDepth 100000 in
theorem pm_kk11 : Cond.code (pm_nm pm_mm11) (pm_by pm_mm11) (pm_ml pm_mm11) (pm_re pm_mm11) ∈ lw_tbl := List.mem_append_right _ (List.mem_append_left _ (List.mem_of_getElem? (i := 228) rfl))
set_option maxRecDepth 100000 in
theorem pm_kk12 : Cond.code (pm_nm pm_mm12) (pm_by pm_mm12) (pm_ml pm_mm12) (pm_re pm_mm12) ∈ lw_tbl := List.mem_append_right _ (List.mem_append_left _ (List.mem_of_getElem? (i := 232) rfl))
set_option maxRecDepth 100000 in
theorem pm_kk13 : Cond.code (pm_nm pm_mm13) (pm_by pm_mm13) (pm_ml pm_mm13) (pm_re pm_mm13) ∈ lw_tbl := List.mem_append_right _ (List.mem_append_left _ (List.mem_of_getElem? (i := 236) rfl))
set_option maxRecDepth 100000 in
theorem pm_kk14 : Cond.code (pm_nm pm_mm14) (pm_by pm_mm14) (pm_ml pm_mm14) (pm_re pm_mm14) ∈ lw_tbl := List.mem_append_right _ (List.mem_append_right _ (List.mem_append_left _ (List.mem_of_getElem? (i := 0) rfl)))
set_option maxRecDepth 100000 in
theorem pm_kk15 : Cond.code (pm_nm pm_mm15) (pm_by pm_mm15) (pm_ml pm_mm15) (pm_re pm_mm15) ∈ lw_tbl := List.mem_append_right _ (List.mem_append_right _ (List.mem_append_left _ (List.mem_of_getElem? (i := 4) rfl)))
set_option maxRecDepth 100000 in
theorem pm_kk16 : Cond.code (pm_nm pm_mm16) (pm_by pm_mm16) (pm_ml pm_mm16) (pm_re pm_mm16) ∈ lw_tbl := List.mem_append_right _ (List.mem_append_right _ (List.mem_append_left _ (List.mem_of_getElem? (i := 8) rfl)))
set_option maxRecDepth 100000 in
theorem pm_kk17 : Cond.code (pm_nm pm_mm17) (pm_by pm_mm17) (pm_ml pm_mm17) (pm_re pm_mm17) ∈ lw_tbl := List.mem_append_right _ (List.mem_append_right _ (List.mem_append_left _ (List.mem_of_getElem? (i := 12) rfl)))
set_option maxRecDepth 100000 in
theorem pm_kk18 : Cond.code (pm_nm pm_mm18) (pm_by pm_mm18) (pm_ml pm_mm18) (pm_re pm_mm18) ∈ lw_tbl := List.mem_append_right _ (List.mem_append_right _ (List.mem_append_left _ (List.mem_of_getElem? (i := 16) rfl)))
set_option maxRecDepth 100000 in
theorem pm_kk19 : Cond.code (pm_nm pm_mm19) (pm_by pm_mm19) (pm_ml pm_mm19) (pm_re pm_mm19) ∈ lw_tbl := List.mem_append_right _ (List.mem_append_right _ (List.mem_append_left _ (List.mem_of_getElem? (i := 20) rfl)))
theorem pm_gk0 : ∀ T ∈ pm_g0, pm_ps T ≠ 0 → Cond.code (pm_nm T) (pm_by T) (pm_ml T) (pm_re T) ∈ lw_tbl := List.forall_mem_cons.mpr ⟨fun h => absurd rfl h, List.forall_mem_cons.mpr ⟨fun _ => pm_kk1, List.forall_mem_cons.mpr ⟨fun _ => pm_kk2, List.forall_mem_cons.mpr ⟨fun _ => pm_kk3, List.forall_mem_cons.mpr ⟨fun _ => pm_kk4, List.forall_mem_cons.mpr ⟨fun _ => pm_kk5, List.forall_mem_cons.mpr ⟨fun _ => pm_kk6, List.forall_mem_cons.mpr ⟨fun _ => pm_kk7, List.forall_mem_cons.mpr ⟨fun _ => pm_kk8, List.forall_mem_cons.mpr ⟨fun _ => pm_kk9, List.forall_mem_cons.mpr ⟨fun _ => pm_kk10, List.forall_mem_cons.mpr ⟨fun _ => pm_kk11, List.forall_mem_cons.mpr ⟨fun _ => pm_kk12, List.forall_mem_cons.mpr ⟨fun _ => pm_kk13, List.forall_mem_cons.mpr ⟨fun _ => pm_kk14, List.forall_mem_cons.mpr ⟨fun _ => pm_kk15, List.forall_mem_cons.mpr ⟨fun _ => pm_kk16, List.forall_mem_cons.mpr ⟨fun _ => pm_kk17, List.forall_mem_cons.mpr ⟨fun _ => pm_kk18, List.forall_mem_cons.mpr ⟨fun _ => pm_kk19, fun _ h => absurd h List.not_mem_nil⟩⟩⟩⟩⟩⟩⟩⟩⟩⟩⟩⟩⟩⟩⟩⟩⟩⟩⟩⟩
theorem pm_gt0 : pm_g0.all pm_tck = true := by decide +kernel
theorem pm_gd0 : pm_g0.all pm_dck = true := by decide +kernel
end
section
/-! the methods of group 1: their words, their instructions -/
set_option maxRecDepth 100000 in
theorem pm_kk20 : Cond.code (pm_nm pm_mm20) (pm_by pm_mm20) (pm_ml pm_mm20) (pm_re pm_mm20) ∈ lw_tbl := List.mem_append_right _ (List.mem_append_right _ (List.mem_append_left _ (List.mem_of_getElem? (i := 31) rfl)))
set_option maxRecDepth 100000 in
theorem pm_kk21 : Cond.code (pm_nm pm_mm21) (pm_by pm_mm21) (pm_ml pm_mm21) (pm_re pm_mm21) ∈ lw_tbl := List.mem_append_right _ (List.mem_append_right _ (List.mem_append_left _ (List.mem_of_getElem? (i := 131) rfl)))
set_option maxRecDepth 100000 in
theorem pm_kk22 : Cond.code (pm_nm pm_mm22) (pm_by pm_mm22) (pm_ml pm_mm22) (pm_re pm_mm22) ∈ lw_tbl := List.mem_append_right _ (List.mem_append_right _ (List.mem_append_left _ (List.mem_of_getElem? (i := 171) rfl)))
set_option maxRecDepth 100000 in
theorem pm_kk23 : Cond.code (pm_nm pm_mm23) (pm_by pm_mm23) (pm_ml pm_mm23) (pm_re pm_mm23) ∈ lw_tbl := List.mem_append_right _ (List.mem_append_right _ (List.mem_append_left _ (List.mem_of_getElem? (i := 175) rfl)))
set_option maxRecDepth 100000 in
theorem pm_kk24 : Cond.code (pm_nm pm_mm24) (pm_by pm_mm24) (pm_ml pm_mm24) (pm_re pm_mm24) ∈ lw_tbl := List.mem_append_right _ (List.mem_append_right _ (List.mem_append_left _ (List.mem_of_getElem? (i := 198) rfl)))
set_option maxRecDepth 100000 in
theorem pm_kk25 : Cond.code (pm_nm pm_mm25) (pm_by pm_mm25) (pm_ml pm_mm25) (pm_re pm_mm25) ∈ lw_tbl := List.mem_append_right _ (List.mem_append_right _ (List.mem_append_left _ (List.mem_of_getElem? (i := 202) rfl)))
set_option maxRecDepth 100000 in
theorem pm_kk26 : Cond.code (pm_nm pm_mm26) (pm_by pm_mm26) (pm_ml pm_mm26) (pm_re pm_mm26) ∈ lw_tbl := List.mem_append_right _ (List.mem_append_right _ (List.mem_append_left _ (List.mem_of_getElem? (i := 206) rfl)))
set_option maxRecDepth 100000 in
theorem pm_kk27 : Cond.code (pm_nm pm_mm27) (pm_by pm_mm27) (pm_ml pm_mm27) (pm_re pm_mm27) ∈ lw_tbl := List.mem_append_right _ (List.mem_append_right _ (List.mem_append_left _ (List.mem_of_getElem? (i := 210) rfl)))
set_option maxRecDepth 100000 in
theorem pm_kk28 : Cond.code (pm_nm pm_mm28) (pm_by pm_mm28) (pm_ml pm_mm28) (pm_re pm_mm28) ∈ lw_tbl := List.mem_append_right _ (List.mem_append_right _ (List.mem_append_left _ (List.mem_of_getElem? (i := 218) rfl)))
set_option maxRecDepth 100000 in
theorem pm_kk29 : Cond.code (pm_nm pm_mm29) (pm_by pm_mm29) (pm_ml pm_mm29) (pm_re pm_mm29) ∈ lw_tbl := List.mem_append_right _ (List.mem_append_right _ (List.mem_append_right _ (List.mem_append_left _ (List.mem_of_getElem? (i := 37) rfl))))
set_option maxRecDepth 100000 in
theorem pm_kk30 : Cond.code (pm_nm pm_mm30) (pm_by pm_mm30) (pm_ml pm_mm30) (pm_re pm_mm30) ∈ lw_tbl := List.mem_append_right _ (List.mem_append_right _ (List.mem_append_right _ (List.mem_append_left _ (List.mem_of_getElem? (i := 53) rfl))))
set_option maxRecDepth 100000 in
theorem pm_kk31 : Cond.code (pm_nm pm_mm31) (pm_by pm_mm31) (pm_ml pm_mm31) (pm_re pm_mm31) ∈ lw_tbl := List.mem_append_right _ (List.mem_append_right _ (List.mem_append_right _ (List.mem_append_left _ (List.mem_of_getElem? (i := 57) rfl))))
set_option maxRecDepth 100000 in
theorem pm_kk32 : Cond.code (pm_nm pm_mm32) (pm_by pm_mm32) (pm_ml pm_mm32) (pm_re pm_mm32) ∈ lw_tbl := List.mem_append_right _ (List.mem_append_right _ (List.mem_append_right _ (List.mem_append_left _ (List.mem_of_getElem? (i := 66) rfl))))
set_option maxRecDepth 100000 in
theorem pm_kk33 : Cond.code (pm_nm pm_mm33) (pm_by pm_mm33) (pm_ml pm_mm33) (pm_re pm_mm33) ∈ lw_tbl := List.mem_append_right _ (List.mem_append_right _ (List.mem_append_right _ (List.mem_append_left _ (List.mem_of_getElem? (i := 169) rfl))))
set_option maxRecDepth 100000 in
theorem pm_kk34 : Cond.code (pm_nm pm_mm34) (pm_by pm_mm34) (pm_ml pm_mm34) (pm_re pm_mm34) ∈ lw_tbl := List.mem_append_right _ (List.mem_append_right _ (List.mem_append_right _ (List.mem_append_left _ (List.mem_of_getElem? (i := 177) rfl))))
set_option maxRecDepth 100000 in
theorem pm_kk35 : Cond.code (pm_nm pm_mm35) (pm_by pm_mm35) (pm_ml pm_mm35) (pm_re pm_mm35) ∈ lw_tbl := List.mem_append_right _ (List.mem_append_right _ (List.mem_append_right _ (List.mem_append_left _ (List.mem_of_getElem? (i := 181) rfl))))
set_option maxRecDepth 100000 in
theorem pm_kk36 : Cond.code (pm_nm pm_mm36) (pm_by pm_mm36) (pm_ml pm_mm36) (pm_re pm_mm36) ∈ lw_tbl := List.mem_append_right _ (List.mem_append_right _ (List.mem_append_right _ (List.mem_append_left _ (List.mem_of_getElem? (i := 186) rfl))))
set_option maxRecDepth 100000 in
theorem pm_kk37 : Cond.code (pm_nm pm_mm37) (pm_by pm_mm37) (pm_ml pm_mm37) (pm_re pm_mm37) ∈ lw_tbl := List.mem_append_right _ (List.mem_append_right _ (List.mem_append_right _ (List.mem_append_left _ (List.mem_of_getElem? (i := 194) rfl))))
set_option maxRecDepth 100000 in
theorem pm_kk38 : Cond.code (pm_nm pm_mm38) (pm_by pm_mm38) (pm_ml pm_mm38) (pm_re pm_mm38) ∈ lw_tbl := List.mem_append_right _ (List.mem_append_right _ (List.mem_append_right _ (List.mem_append_right _ (List.mem_append_left _ (List.mem_of_getElem? (i := 27) rfl)))))
set_option maxRecDepth 100000 in
theorem pm_kk39 : Cond.code (pm_nm pm_mm39) (pm_by pm_mm39) (pm_ml pm_mm39) (pm_re pm_mm39) ∈ lw_tbl := List.mem_append_right _ (List.mem_append_right _ (List.mem_append_right _ (List.mem_append_right _ (List.mem_append_left _ (List.mem_of_getElem? (i := 37) rfl)))))
theorem pm_gk1 : ∀ T ∈ pm_g1, pm_ps T ≠ 0 → Cond.code (pm_nm T) (pm_by T) (pm_ml T) (pm_re T) ∈ lw_tbl := List.forall_mem_cons.mpr ⟨fun _ => pm_kk20, List.forall_mem_cons.mpr ⟨fun _ => pm_kk21, List.forall_mem_cons.mpr ⟨fun _ => pm_kk22, List.forall_mem_cons.mpr ⟨fun _ => pm_kk23, List.forall_mem_cons.mpr ⟨fun _ => pm_kk24, List.forall_mem_cons.mpr ⟨fun _ => pm_kk25, List.forall_mem_cons.mpr ⟨fun _ => pm_kk26, List.forall_mem_cons.mpr ⟨fun _ => pm_kk27, List.forall_mem_cons.mpr ⟨fun _ => pm_kk28, List.forall_mem_cons.mpr ⟨fun _ => pm_kk29, List.forall_mem_cons.mpr ⟨fun _ => pm_kk30, List.forall_mem_cons.mpr ⟨fun _ => pm_kk31, List.forall_mem_cons.mpr ⟨fun _ => pm_kk32, List.forall_mem_cons.mpr ⟨fun _ => pm_kk33, List.forall_mem_cons.mpr ⟨fun _ => pm_kk34, List.forall_mem_cons.mpr ⟨fun _ => pm_kk35, List.forall_mem_cons.mpr ⟨fun _ => pm_kk36, List.forall_mem_cons.mpr ⟨fun _ => pm_kk37, List.forall_mem_cons.mpr ⟨fun _ => pm_kk38, List.forall_mem_cons.mpr ⟨fun _ => pm_kk39, fun _ h => absurd h List.not_mem_nil⟩⟩⟩⟩⟩⟩⟩⟩⟩⟩⟩⟩⟩⟩⟩⟩⟩⟩⟩⟩
theorem pm_gt1 : pm_g1.all pm_tck = true := by decide +kernel
theorem pm_gd1 : pm_g1.all pm_dck = true := by decide +kernel
end
section
/-! the methods of group 2: their words, their instructions -/
set_option maxRecDepth 100000 in
theorem pm_kk40 : Cond.code (pm_nm pm_mm40) (pm_by pm_mm40) (pm_ml pm_mm40) (pm_re pm_mm40) ∈ lw_tbl := List.mem_append_right _ (List.mem_append_right _ (List.mem_append_right _ (List.mem_append_right _ (List.mem_append_left _ (List.mem_of_getElem? (i := 45) rfl)))))
set_option maxRecDepth 100000 in
theorem pm_kk41 : Cond.code (pm_nm pm_mm41) (pm_by pm_mm41) (pm_ml pm_mm41) (pm_re pm_mm41) ∈ lw_tbl := List.mem_append_right _ (List.mem_append_right _ (List.mem_append_right _ (List.mem_append_right _ (List.mem_append_left _ (List.mem_of_getElem? (i := 204) rfl)))))
set_option maxRecDepth 100000 in
theorem pm_kk42 : Cond.code (pm_nm pm_mm42) (pm_by pm_mm42) (pm_ml pm_mm42) (pm_re pm_mm42) ∈ lw_tbl := List.mem_append_right _ (List.mem_append_right _ (List.mem_append_right _ (List.mem_append_right _ (List.mem_append_left _ (List.mem_of_getElem? (i := 208) rfl)))))
set_option maxRecDepth 100000 in
theorem pm_kk43 : Cond.code (pm_nm pm_mm43) (pm_by pm_mm43) (pm_ml pm_mm43) (pm_re pm_mm43) ∈ lw_tbl := List.mem_append_right _ (List.mem_append_right _ (List.mem_append_right _ (List.mem_append_right _ (List.mem_append_left _ (List.mem_of_getElem? (i := 221) rfl)))))
set_option maxRecDepth 100000 in
theorem pm_kk44 : Cond.code (pm_nm pm_mm44) (pm_by pm_mm44) (pm_ml pm_mm44) (pm_re pm_mm44) ∈ lw_tbl := List.mem_append_right _ (List.mem_append_right _ (List.mem_append_right _ (List.mem_append_right _ (List.mem_append_left _ (List.mem_of_getElem? (i := 225) rfl)))))
set_option maxRecDepth 100000 in
theorem pm_kk45 : Cond.code (pm_nm pm_mm45) (pm_by pm_mm45) (pm_ml pm_mm45) (pm_re pm_mm45) ∈ lw_tbl := List.mem_append_right _ (List.mem_append_right _ (List.mem_append_right _ (List.mem_append_right _ (List.mem_append_left _ (List.mem_of_getElem? (i := 229) rfl)))))
set_option maxRecDepth 100000 in
theorem pm_kk46 : Cond.code (pm_nm pm_mm46) (pm_by pm_mm46) (pm_ml pm_mm46) (pm_re pm_mm46) ∈ lw_tbl := List.mem_append_right _ (List.mem_append_right _ (List.mem_append_right _ (List.mem_append_right _ (List.mem_append_left _ (List.mem_of_getElem? (i := 234) rfl)))))
set_option maxRecDepth 100000 in
theorem pm_kk47 : Cond.code (pm_nm pm_mm47) (pm_by pm_mm47) (pm_ml pm_mm47) (pm_re pm_mm47) ∈ lw_tbl := List.mem_append_right _ (List.mem_append_right _ (List.mem_append_right _ (List.mem_append_right _ (List.mem_append_right _ (List.mem_append_left _ (List.mem_of_getElem? (i := 149) rfl))))))
set_option maxRecDepth 100000 in
theorem pm_kk48 : Cond.code (pm_nm pm_mm48) (pm_by pm_mm48) (pm_ml pm_mm48) (pm_re pm_mm48) ∈ lw_tbl := List.mem_append_right _ (List.mem_append_right _ (List.mem_append_right _ (List.mem_append_right _ (List.mem_append_right _ (List.mem_append_left _ (List.mem_of_getElem? (i := 153) rfl))))))
set_option maxRecDepth 100000 in
theorem pm_kk49 : Cond.code (pm_nm pm_mm49) (pm_by pm_mm49) (pm_ml pm_mm49) (pm_re pm_mm49) ∈ lw_tbl := List.mem_append_right _ (List.mem_append_right _ (List.mem_append_right _ (List.mem_append_right _ (List.mem_append_right _ (List.mem_append_left _ (List.mem_of_getElem? (i := 157) rfl))))))
set_option maxRecDepth 100000 in
theorem pm_kk50 : Cond.code (pm_nm pm_mm50) (pm_by pm_mm50) (pm_ml pm_mm50) (pm_re pm_mm50) ∈ lw_tbl := List.mem_append_right _ (List.mem_append_right _ (List.mem_append_right _ (List.mem_append_right _ (List.mem_append_right _ (List.mem_append_left _ (List.mem_of_getElem? (i := 160) rfl))))))
set_option maxRecDepth 100000 in
theorem pm_kk51 : Cond.code (pm_nm pm_mm51) (pm_by pm_mm51) (pm_ml pm_mm51) (pm_re pm_mm51) ∈ lw_tbl := List.mem_append_right _ (List.mem_append_right _ (List.mem_append_right _ (List.mem_append_right _ (List.mem_append_right _ (List.mem_append_left _ (List.mem_of_getElem? (i := 164) rfl))))))
set_option maxRecDepth 100000 in
theorem pm_kk52 : Cond.code (pm_nm pm_mm52) (pm_by pm_mm52) (pm_ml pm_mm52) (pm_re pm_mm52) ∈ lw_tbl := List.mem_append_right _ (List.mem_append_right _ (List.mem_append_right _ (List.mem_append_right _ (List.mem_append_right _ (List.mem_append_left _ (List.mem_of_getElem? (i := 168) rfl))))))
set_option maxRecDepth 100000 in
theorem pm_kk53 : Cond.code (pm_nm pm_mm53) (pm_by pm_mm53) (pm_ml pm_mm53) (pm_re pm_mm53) ∈ lw_tbl := List.mem_append_right _ (List.mem_append_right _ (List.mem_append_right _ (List.mem_append_right _ (List.mem_append_right _ (List.mem_append_left _ (List.mem_of_getElem? (i := 172) rfl))))))
set_option maxRecDepth 100000 in
theorem pm_kk54 : Cond.code (pm_nm pm_mm54) (pm_by pm_mm54) (pm_ml pm_mm54) (pm_re pm_mm54) ∈ lw_tbl := List.mem_append_right _ (List.mem_append_right _ (List.mem_append_right _ (List.mem_append_right _ (List.mem_append_right _ (List.mem_append_left _ (List.mem_of_getElem? (i := 176) rfl))))))
set_option maxRecDepth 100000 in
theorem pm_kk55 : Cond.code (pm_nm pm_mm55) (pm_by pm_mm55) (pm_ml pm_mm55) (pm_re pm_mm55) ∈ lw_tbl := List.mem_append_right _ (List.mem_append_right _ (List.mem_append_right _ (List.mem_append_right _ (List.mem_append_right _ (List.mem_append_left _ (List.mem_of_getElem? (i := 180) rfl))))))
set_option maxRecDepth 100000 in
theorem pm_kk56 : Cond.code (pm_nm pm_mm56) (pm_by pm_mm56) (pm_ml pm_mm56) (pm_re pm_mm56) ∈ lw_tbl := List.mem_append_right _ (List.mem_append_right _ (List.mem_append_right _ (List.mem_append_right _ (List.mem_append_right _ (List.mem_append_left _ (List.mem_of_getElem? (i := 188) rfl))))))
set_option maxRecDepth 100000 in
theorem pm_kk57 : Cond.code (pm_nm pm_mm57) (pm_by pm_mm57) (pm_ml pm_mm57) (pm_re pm_mm57) ∈ lw_tbl := List.mem_append_right _ (List.mem_append_right _ (List.mem_append_right _ (List.mem_append_right _ (List.mem_append_right _ (List.mem_append_left _ (List.mem_of_getElem? (i := 215) rfl))))))
set_option maxRecDepth 100000 in
theorem pm_kk58 : Cond.code (pm_nm pm_mm58) (pm_by pm_mm58) (pm_ml pm_mm58) (pm_re pm_mm58) ∈ lw_tbl := List.mem_append_right _ (List.mem_append_right _ (List.mem_append_right _ (List.mem_append_right _ (List.mem_append_right _ (List.mem_append_left _ (List.mem_of_getElem? (i := 223) rfl))))))
set_option maxRecDepth 100000 in
theorem pm_kk59 : Cond.code (pm_nm pm_mm59) (pm_by pm_mm59) (pm_ml pm_mm59) (pm_re pm_mm59) ∈ lw_tbl := List.mem_append_right _ (List.mem_append_right _ (List.mem_append_right _ (List.mem_append_right _ (List.mem_append_right _ (List.mem_append_left _ (List.mem_of_getElem? (i := 231) rfl))))))
theorem pm_gk2 : ∀ T ∈ pm_g2, pm_ps T ≠ 0 → Cond.code (pm_nm T) (pm_by T) (pm_ml T) (pm_re T) ∈ lw_tbl := List.forall_mem_cons.mpr ⟨fun _ => pm_kk40, List.forall_mem_cons.mpr ⟨fun _ => pm_kk41, List.forall_mem_cons.mpr ⟨fun _ => pm_kk42, List.forall_mem_cons.mpr ⟨fun _ => pm_kk43, List.forall_mem_cons.mpr ⟨fun _ => pm_kk44, List.forall_mem_cons.mpr ⟨fun _ => pm_kk45, List.forall_mem_cons.mpr ⟨fun _ => pm_kk46, List.forall_mem_cons.mpr ⟨fun _ => pm_kk47, List.forall_mem_cons.mpr ⟨fun _ => pm_kk48, List.forall_mem_cons.mpr ⟨fun _ => pm_kk49, List.forall_mem_cons.mpr ⟨fun _ => pm_kk50, List.forall_mem_cons.mpr ⟨fun _ => pm_kk51, List.forall_mem_cons.mpr ⟨fun _ => pm_kk52, List.forall_mem_cons.mpr ⟨fun _ => pm_kk53, List.forall_mem_cons.mpr ⟨fun _ => pm_kk54, List.forall_mem_cons.mpr ⟨fun _ => pm_kk55, List.forall_mem_cons.mpr ⟨fun _ => pm_kk56, List.forall_mem_cons.mpr ⟨fun _ => pm_kk57, List.forall_mem_cons.mpr ⟨fun _ => pm_kk58, List.forall_mem_cons.mpr ⟨fun _ => pm_kk59, fun _ h => absurd h List.not_mem_nil⟩⟩⟩⟩⟩⟩⟩⟩⟩⟩⟩⟩⟩⟩⟩⟩⟩⟩⟩⟩
theorem pm_gt2 : pm_g2.all pm_tck = true := by decide +kernel
theorem pm_gd2 : pm_g2.all pm_dck = true := by decide +kernel
end
section
/-! the methods of group 3: their words, their instructions -/
set_option maxRecDepth 100000 in
theorem pm_kk60 : Cond.code (pm_nm pm_mm60) (pm_by pm_mm60) (pm_ml pm_mm60) (pm_re pm_mm60) ∈ lw_tbl := List.mem_append_right _ (List.mem_append_right _ (List.mem_append_right _ (List.mem_append_right _ (List.mem_append_right _ (List.mem_append_left _ (List.mem_of_getElem? (i := 235) rfl))))))
set_option maxRecDepth 100000 in
theorem pm_kk61 : Cond.code (pm_nm pm_mm61) (pm_by pm_mm61) (pm_ml pm_mm61) (pm_re pm_mm61) ∈ lw_tbl := List.mem_append_right _ (List.mem_append_right _ (List.mem_append_right _ (List.mem_append_right _ (List.mem_append_right _ (List.mem_append_left _ (List.mem_of_getElem? (i := 239) rfl))))))
set_option maxRecDepth 100000 in
theorem pm_kk62 : Cond.code (pm_nm pm_mm62) (pm_by pm_mm62) (pm_ml pm_mm62) (pm_re pm_mm62) ∈ lw_tbl := List.mem_append_right _ (List.mem_append_right _ (List.mem_append_right _ (List.mem_append_right _ (List.mem_append_right _ (List.mem_append_right _ (List.mem_of_getElem? (i := 3) rfl))))))
set_option maxRecDepth 100000 in
theorem pm_kk63 : Cond.code (pm_nm pm_mm63) (pm_by pm_mm63) (pm_ml pm_mm63) (pm_re pm_mm63) ∈ lw_tbl := List.mem_append_right _ (List.mem_append_right _ (List.mem_append_right _ (List.mem_append_right _ (List.mem_append_right _ (List.mem_append_right _ (List.mem_of_getElem? (i := 7) rfl))))))
set_option maxRecDepth 100000 in
theorem pm_kk64 : Cond.code (pm_nm pm_mm64) (pm_by pm_mm64) (pm_ml pm_mm64) (pm_re pm_mm64) ∈ lw_tbl := List.mem_append_right _ (List.mem_append_right _ (List.mem_append_right _ (List.mem_append_right _ (List.mem_append_right _ (List.mem_append_right _ (List.mem_of_getElem? (i := 35) rfl))))))
set_option maxRecDepth 100000 in
theorem pm_kk65 : Cond.code (pm_nm pm_mm65) (pm_by pm_mm65) (pm_ml pm_mm65) (pm_re pm_mm65) ∈ lw_tbl := List.mem_append_right _ (List.mem_append_right _ (List.mem_append_right _ (List.mem_append_right _ (List.mem_append_right _ (List.mem_append_right _ (List.mem_of_getElem? (i := 39) rfl))))))
set_option maxRecDepth 100000 in
theorem pm_kk66 : Cond.code (pm_nm pm_mm66) (pm_by pm_mm66) (pm_ml pm_mm66) (pm_re pm_mm66) ∈ lw_tbl := List.mem_append_right _ (List.mem_append_right _ (List.mem_append_right _ (List.mem_append_right _ (List.mem_append_right _ (List.mem_append_right _ (List.mem_of_getElem? (i := 43) rfl))))))
set_option maxRecDepth 100000 in
theorem pm_kk67 : Cond.code (pm_nm pm_mm67) (pm_by pm_mm67) (pm_ml pm_mm67) (pm_re pm_mm67) ∈ lw_tbl := List.mem_append_right _ (List.mem_append_right _ (List.mem_append_right _ (List.mem_append_right _ (List.mem_append_right _ (List.mem_append_right _ (List.mem_of_getElem? (i := 47) rfl))))))
set_option maxRecDepth 100000 in
theorem pm_kk68 : Cond.code (pm_nm pm_mm68) (pm_by pm_mm68) (pm_ml pm_mm68) (pm_re pm_mm68) ∈ lw_tbl := List.mem_append_right _ (List.mem_append_right _ (List.mem_append_right _ (List.mem_append_right _ (List.mem_append_right _ (List.mem_append_right _ (List.mem_of_getElem? (i := 96) rfl))))))
set_option maxRecDepth 100000 in
theorem pm_kk69 : Cond.code (pm_nm pm_mm69) (pm_by pm_mm69) (pm_ml pm_mm69) (pm_re pm_mm69) ∈ lw_tbl := List.mem_append_right _ (List.mem_append_right _ (List.mem_append_right _ (List.mem_append_right _ (List.mem_append_right _ (List.mem_append_right _ (List.mem_of_getElem? (i := 101) rfl))))))
set_option maxRecDepth 100000 in
theorem pm_kk70 : Cond.code (pm_nm pm_mm70) (pm_by pm_mm70) (pm_ml pm_mm70) (pm_re pm_mm70) ∈ lw_tbl := List.mem_append_right _ (List.mem_append_right _ (List.mem_append_right _ (List.mem_append_right _ (List.mem_append_right _ (List.mem_append_right _ (List.mem_of_getElem? (i := 105) rfl))))))
set_option maxRecDepth 100000 in
theorem pm_kk71 : Cond.code (pm_nm pm_mm71) (pm_by pm_mm71) (pm_ml pm_mm71) (pm_re pm_mm71) ∈ lw_tbl := List.mem_append_right _ (List.mem_append_right _ (List.mem_append_right _ (List.mem_append_right _ (List.mem_append_right _ (List.mem_append_right _ (List.mem_of_getElem? (i := 109) rfl))))))
set_option maxRecDepth 100000 in
theorem pm_kk72 : Cond.code (pm_nm pm_mm72) (pm_by pm_mm72) (pm_ml pm_mm72) (pm_re pm_mm72) ∈ lw_tbl := List.mem_append_right _ (List.mem_append_right _ (List.mem_append_right _ (List.mem_append_right _ (List.mem_append_right _ (List.mem_append_right _ (List.mem_of_getElem? (i := 117) rfl))))))
set_option maxRecDepth 100000 in
theorem pm_kk73 : Cond.code (pm_nm pm_mm73) (pm_by pm_mm73) (pm_ml pm_mm73) (pm_re pm_mm73) ∈ lw_tbl := List.mem_append_right _ (List.mem_append_right _ (List.mem_append_right _ (List.mem_append_right _ (List.mem_append_right _ (List.mem_append_right _ (List.mem_of_getElem? (i := 137) rfl))))))
set_option maxRecDepth 100000 in
theorem pm_kk74 : Cond.code (pm_nm pm_mm74) (pm_by pm_mm74) (pm_ml pm_mm74) (pm_re pm_mm74) ∈ lw_tbl := List.mem_append_right _ (List.mem_append_right _ (List.mem_append_right _ (List.mem_append_right _ (List.mem_append_right _ (List.mem_append_right _ (List.mem_of_getElem? (i := 145) rfl))))))
set_option maxRecDepth 100000 in
theorem pm_kk75 : Cond.code (pm_nm pm_mm75) (pm_by pm_mm75) (pm_ml pm_mm75) (pm_re pm_mm75) ∈ lw_tbl := List.mem_append_right _ (List.mem_append_right _ (List.mem_append_right _ (List.mem_append_right _ (List.mem_append_right _ (List.mem_append_right _ (List.mem_of_getElem? (i := 149) rfl))))))
set_option maxRecDepth 100000 in
theorem pm_kk76 : Cond.code (pm_nm pm_mm76) (pm_by pm_mm76) (pm_ml pm_mm76) (pm_re pm_mm76) ∈ lw_tbl := List.mem_append_right _ (List.mem_append_right _ (List.mem_append_right _ (List.mem_append_right _ (List.mem_append_right _ (List.mem_append_right _ (List.mem_of_getElem? (i := 185) rfl))))))
set_option maxRecDepth 100000 in
theorem pm_kk77 : Cond.code (pm_nm pm_mm77) (pm_by pm_mm77) (pm_ml pm_mm77) (pm_re pm_mm77) ∈ lw_tbl := List.mem_append_right _ (List.mem_append_right _ (List.mem_append_right _ (List.mem_append_right _ (List.mem_append_right _ (List.mem_append_right _ (List.mem_of_getElem? (i := 189) rfl))))))
set_option maxRecDepth 100000 in
theorem pm_kk78 : Cond.code (pm_nm pm_mm78) (pm_by pm_mm78) (pm_ml pm_mm78) (pm_re pm_mm78) ∈ lw_tbl := List.mem_append_right _ (List.mem_append_right _ (List.mem_append_right _ (List.mem_append_right _ (List.mem_append_right _ (List.mem_append_right _ (List.mem_of_getElem? (i := 196) rfl))))))
set_option maxRecDepth 100000 in
theorem pm_kk79 : Cond.code (pm_nm pm_mm79) (pm_by pm_mm79) (pm_ml pm_mm79) (pm_re pm_mm79) ∈ lw_tbl := List.mem_append_right _ (List.mem_append_right _ (List.mem_append_right _ (List.mem_append_right _ (List.mem_append_right _ (List.mem_append_right _ (List.mem_of_getElem? (i := 200) rfl))))))
theorem pm_gk3 : ∀ T ∈ pm_g3, pm_ps T ≠ 0 → Cond.code (pm_nm T) (pm_by T) (pm_ml T) (pm_re T) ∈ lw_tbl := List.forall_mem_cons.mpr ⟨fun _ => pm_kk60, List.forall_mem_cons.mpr ⟨fun _ => pm_kk61, List.forall_mem_cons.mpr ⟨fun _ => pm_kk62, List.forall_mem_cons.mpr ⟨fun _ => pm_kk63, List.forall_mem_cons.mpr ⟨fun _ => pm_kk64, List.forall_mem_cons.mpr ⟨fun _ => pm_kk65, List.forall_mem_cons.mpr ⟨fun _ => pm_kk66, List.forall_mem_cons.mpr ⟨fun _ => pm_kk67, List.forall_mem_cons.mpr ⟨fun _ => pm_kk68, List.forall_mem_cons.mpr ⟨fun _ => pm_kk69, List.forall_mem_cons.mpr ⟨fun _ => pm_kk70, List.forall_mem_cons.mpr ⟨fun _ => pm_kk71, List.forall_mem_cons.mpr ⟨fun _ => pm_kk72, List.forall_mem_cons.mpr ⟨fun _ => pm_kk73, List.forall_mem_cons.mpr ⟨fun _ => pm_kk74, List.forall_mem_cons.mpr ⟨fun _ => pm_kk75, List.forall_mem_cons.mpr ⟨fun _ => pm_kk76, List.forall_mem_cons.mpr ⟨fun _ => pm_kk77, List.forall_mem_cons.mpr ⟨fun _ => pm_kk78, List.forall_mem_cons.mpr ⟨fun _ => pm_kk79, fun _ h => absurd h List.not_mem_nil⟩⟩⟩⟩⟩⟩⟩⟩⟩⟩⟩⟩⟩⟩⟩⟩⟩⟩⟩⟩
theorem pm_gt3 : pm_g3.all pm_tck = true := by decide +kernel
theorem pm_gd3 : pm_g3.all pm_dck = true := by decide +kernel
end
section
/-! all methods -/
theorem pm_tab_gt : pm_tab.all pm_tck = true := by
  unfold pm_tab
  simp only [List.all_append, Bool.and_true, pm_gt0, pm_gt1, pm_gt2, pm_gt3]
theorem pm_tab_gd : pm_tab.all pm_dck = true := by
  unfold pm_tab
  simp only [List.all_append, Bool.and_true, pm_gd0, pm_gd1, pm_gd2, pm_gd3]
theorem pm_tab_gk : ∀ T ∈ pm_tab, pm_ps T ≠ 0 → Cond.code (pm_nm T) (pm_by T) (pm_ml T) (pm_re T) ∈ pm_tb := fun T hT h => List.mem_filter.mpr ⟨(show ∀ T ∈ pm_tab, pm_ps T ≠ 0 → Cond.code (pm_nm T) (pm_by T) (pm_ml T) (pm_re T) ∈ lw_tbl from List.forall_mem_append.mpr ⟨pm_gk0, List.forall_mem_append.mpr ⟨pm_gk1, List.forall_mem_append.mpr ⟨pm_gk2, pm_gk3⟩⟩⟩) T hT h, rfl⟩
end
section
/-! THE PURE MACHINE, 4: instructions that read, write and make cells (over the tables pm_fr, pm_nr, pm_ar, pm_cl of the part ahead) -/
def pm_r1 (st : List Value) : Option (Nat × List Value) := match st with
  | .ref a :: r => some (a, r)
  | _ => none
theorem pm_r1_ok {st r : List Value} {a : Nat} (h : pm_r1 st = some (a, r)) : st = .ref a :: r := by
  unfold pm_r1 at h; split at h
  · cases h; rfl
  · cases h
def pm_ob (ph : List va_E) (a ci : Nat) : Option (List Value) := match ph[a]? with
  | some (.inr q) => if q.1 = ci then some q.2 else none
  | _ => none
theorem pm_ob_ok {ph : List va_E} {a ci : Nat} {fs : List Value} (h : pm_ob ph a ci = some fs) : ph[a]? = some (.inr (ci, fs)) := by
  unfold pm_ob at h; split at h
  · rename_i q hq
    split at h
    · rename_i hc
      cases h
      rw [hq, ← hc]
    · cases h
  · cases h
def pm_ia (ph : List va_E) (a tg : Nat) : Option (Nat × (Nat → Int32)) := match ph[a]? with
  | some (.inl (t, n, .inl f)) => if t = tg then some (n, f) else none
  | _ => none
def pm_la (ph : List va_E) (a tg : Nat) : Option (Nat × (Nat → Int64)) := match ph[a]? with
  | some (.inl (t, n, .inr (.inl f))) => if t = tg then some (n, f) else none
  | _ => none
def pm_ra (ph : List va_E) (a tg : Nat) : Option (Nat × (Nat → Option Nat)) := match ph[a]? with
  | some (.inl (t, n, .inr (.inr (.inr (.inr f))))) => if t = tg then some (n, f) else none
  | _ => none
theorem pm_ia_ok {ph : List va_E} {a tg n : Nat} {f : Nat → Int32} (h : pm_ia ph a tg = some (n, f)) : ph[a]? = some (.inl (tg, n, .inl f)) := by
  unfold pm_ia at h; split at h
  · rename_i hq
    split at h
    · rename_i hc; cases h; rw [hq, hc]
    · cases h
  · cases h
theorem pm_la_ok {ph : List va_E} {a tg n : Nat} {f : Nat → Int64} (h : pm_la ph a tg = some (n, f)) : ph[a]? = some (.inl (tg, n, .inr (.inl f))) := by
  unfold pm_la at h; split at h
  · rename_i hq
    split at h
    · rename_i hc; cases h; rw [hq, hc]
    · cases h
  · cases h
theorem pm_ra_ok {ph : List va_E} {a tg n : Nat} {f : Nat → Option Nat} (h : pm_ra ph a tg = some (n, f)) : ph[a]? = some (.inl (tg, n, .inr (.inr (.inr (.inr f))))) := by
  unfold pm_ra at h; split at h
  · rename_i hq
    split at h
    · rename_i hc; cases h; rw [hq, hc]
    · cases h
  · cases h
def pm_ix (i : Int32) (n : Nat) : Option Nat := if i < 0 ∨ n ≤ i.toNatClampNeg then none else some i.toNatClampNeg
theorem pm_ix_ok {i : Int32} {n j : Nat} (h : pm_ix i n = some j) : vp_in i n ∧ j = i.toNatClampNeg := by
  unfold pm_ix at h; split at h
  · cases h
  · rename_i hc; cases h; exact ⟨hc, rfl⟩
def pm_aln (ph : List va_E) (a : Nat) : Option Nat := match ph[a]? with
  | some (.inl (_, n, .inl _)) => some n
  | some (.inl (_, n, .inr (.inl _))) => some n
  | some (.inl (_, n, .inr (.inr (.inr (.inr _))))) => some n
  | _ => none
def pm_s1 (st : List Value) : Option (List Value) := match st with
  | .retAddr _ :: r => some r
  | _ => none
theorem pm_s1_ok {st r : List Value} (h : pm_s1 st = some r) : ∃ k, st = .retAddr k :: r := by
  unfold pm_s1 at h; split at h
  · cases h; exact ⟨_, rfl⟩
  · cases h
/-- reads -/
def pm_rd (T : pm_M) (scr : Option (Nat × (Nat → Int32))) (i : Instr) (st : List Value) (ph : List va_E) : Option (List Value) := match i with
  | .getfield idx => (pm_r1 st).bind fun q => (pm_fr (pm_cn T) idx).bind fun w => (pm_ob ph q.1 w.1).bind fun fs => (fs[w.2.1]?).bind fun v => some (v :: q.2)
  | .iaload => (pm_i1 st).bind fun q => match pm_s1 q.2 with
    | some r => scr.bind fun x => (pm_ix q.1 x.1).bind fun j => some (.int (x.2 j) :: r)
    | none => (pm_r1 q.2).bind fun w => (pm_ia ph w.1 0).bind fun x => (pm_ix q.1 x.1).bind fun j => some (.int (x.2 j) :: w.2)
  | .baload => (pm_i1 st).bind fun q => (pm_r1 q.2).bind fun w => (pm_ia ph w.1 1).bind fun x => (pm_ix q.1 x.1).bind fun j => some (.int (x.2 j) :: w.2)
  | .laload => (pm_i1 st).bind fun q => (pm_r1 q.2).bind fun w => (pm_la ph w.1 2).bind fun x => (pm_ix q.1 x.1).bind fun j => some (.long (x.2 j) :: w.2)
  | .aaload => (pm_i1 st).bind fun q => (pm_r1 q.2).bind fun w => (pm_ra ph w.1 3).bind fun x => (pm_ix q.1 x.1).bind fun j => some (pm_vo (x.2 j) :: w.2)
  | .arraylength => match pm_s1 st with
    | some r => scr.bind fun x => some (.int (Int32.ofNat x.1) :: r)
    | none => (pm_r1 st).bind fun w => (pm_aln ph w.1).bind fun n => some (.int (Int32.ofNat n) :: w.2)
  | .ldc2_w idx => (pm_lk (pm_cn T) idx).bind fun v => some (.long v.1 :: st)
  | _ => none
def pm_pf (T : pm_M) (idx : Nat) (st : List Value) (ph : List va_E) : Option (List Value × Nat × va_E) := match st with
  | v :: st1 => (pm_r1 st1).bind fun q => (pm_fr (pm_cn T) idx).bind fun w => (pm_ob ph q.1 w.1).bind fun fs => if pm_fit (pm_fty w.1 w.2.1) v = true ∧ w.2.1 < fs.length ∧ (w.2.2.1 = 0 ∨ w.2.2.1 = 1 ∨ (w.2.2.1 = 2 ∧ pm_ini T = true ∧ w.1 = pm_cn T)) then some (q.2, q.1, .inr (w.1, fs.set w.2.1 v)) else none
  | _ => none
/-- writes: the place, the new cell, the stack behind -/
def pm_wr (T : pm_M) (i : Instr) (st : List Value) (ph : List va_E) : Option (List Value × Nat × va_E) := match i with
  | .putfield idx => pm_pf T idx st ph
  | .iastore => (pm_i1 st).bind fun v => (pm_i1 v.2).bind fun q => (pm_r1 q.2).bind fun w => (pm_ia ph w.1 0).bind fun x => (pm_ix q.1 x.1).bind fun j => some (w.2, w.1, .inl (0, x.1, .inl (upd x.2 j v.1)))
  | .bastore => (pm_i1 st).bind fun v => (pm_i1 v.2).bind fun q => (pm_r1 q.2).bind fun w => (pm_ia ph w.1 1).bind fun x => (pm_ix q.1 x.1).bind fun j => some (w.2, w.1, .inl (1, x.1, .inl (upd x.2 j (vp_nar .boolean v.1))))
  | .lastore => (pm_l1 st).bind fun v => (pm_i1 v.2).bind fun q => (pm_r1 q.2).bind fun w => (pm_la ph w.1 2).bind fun x => (pm_ix q.1 x.1).bind fun j => some (w.2, w.1, .inl (2, x.1, .inr (.inl (vp_updL x.2 j v.1))))
  | .aastore => (pm_r1 st).bind fun v => (pm_i1 v.2).bind fun q => (pm_r1 q.2).bind fun w => (pm_ra ph w.1 3).bind fun x => (pm_ix q.1 x.1).bind fun j => (pm_ob ph v.1 pm_cC).bind fun _ => some (w.2, w.1, .inl (3, x.1, .inr (.inr (.inr (.inr (va_up x.2 j (some v.1)))))))
  | _ => none
/-- new cells: the stack behind (without the new reference), the cell, its slots -/
def pm_nw (T : pm_M) (i : Instr) (st : List Value) : Option (List Value × va_E × Nat) := match i with
  | .new idx => (pm_nr (pm_cn T) idx).bind fun ci => (pm_dfs[ci.1]?).bind fun fs => some (st, .inr (ci.1, fs), fs.length)
  | .newarray .int => (pm_i1 st).bind fun q => if q.1 < 0 ∨ 16777216 < q.1.toNatClampNeg then none else some (q.2, .inl (0, q.1.toNatClampNeg, .inl (fun _ => 0)), q.1.toNatClampNeg)
  | .newarray .boolean => (pm_i1 st).bind fun q => if q.1 < 0 ∨ 16777216 < q.1.toNatClampNeg then none else some (q.2, .inl (1, q.1.toNatClampNeg, .inl (fun _ => 0)), q.1.toNatClampNeg)
  | .newarray .long => (pm_i1 st).bind fun q => if q.1 < 0 ∨ 16777216 < q.1.toNatClampNeg then none else some (q.2, .inl (2, q.1.toNatClampNeg, .inr (.inl (fun _ => 0))), q.1.toNatClampNeg)
  | .anewarray idx => (pm_ar (pm_cn T) idx).bind fun _ => (pm_i1 st).bind fun q => if q.1 < 0 ∨ 16777216 < q.1.toNatClampNeg then none else some (q.2, .inl (3, q.1.toNatClampNeg, .inr (.inr (.inr (.inr (fun _ => none))))), q.1.toNatClampNeg)
  | _ => none
/-! what the tables say -/
theorem pm_own_at {α : Type} {l : List (String × List (Nat × α))} (h : pm_fls.map (fun z => z.1) = l.map (fun z => z.1)) (c : Nat) : (l.getD c ("", [])).1 = pm_ow c := by
  have h1 : (l.map (fun z => z.1))[c]? = (pm_fls.map (fun z => z.1))[c]? := by rw [h]
  rw [List.getElem?_map, List.getElem?_map] at h1
  unfold pm_ow
  rw [List.getD_eq_getElem?_getD, List.getD_eq_getElem?_getD]
  cases ha : l[c]? with
  | none =>
    rw [ha] at h1
    cases hb : pm_fls[c]? with
    | none => rfl
    | some b => rw [hb] at h1; cases h1
  | some a =>
    rw [ha] at h1
    cases hb : pm_fls[c]? with
    | none => rw [hb] at h1; cases h1
    | some b => rw [hb] at h1; exact Option.some.inj h1
theorem pm_all_at {α : Type} {l : List (String × List (Nat × α))} {ck : String → Nat × α → Bool} (h : l.all (fun z => z.2.all (ck z.1)) = true) (ho : pm_fls.map (fun z => z.1) = l.map (fun z => z.1)) {c idx : Nat} {v : α} (hv : pm_as (l.getD c ("", [])).2 idx = some v) : ck (pm_ow c) (idx, v) = true := by
  have hm := pm_as_mem hv
  rcases pm_getD_mem (l := l) (d := ("", [])) (k := c) rfl with h1 | h1
  · rw [h1] at hm; cases hm
  · have h2 := List.all_eq_true.mp (List.all_eq_true.mp h _ h1) _ hm
    rw [pm_own_at ho c] at h2
    exact h2
theorem pm_fr_ok {c idx : Nat} {w : Nat × Nat × Nat × Nat} (h : pm_fr c idx = some w) : pm_fck (pm_ow c) (idx, w) = true := pm_all_at pm_fls_ok rfl h
theorem pm_mr_ok {c idx : Nat} {w : Nat × Nat × Nat × Nat × Nat} (h : pm_mr c idx = some w) : pm_mck (pm_ow c) (idx, w) = true := pm_all_at pm_mls_ok pm_ows_ok.1 h
theorem pm_nr_ok {c idx : Nat} {w : Nat × Nat} (h : pm_nr c idx = some w) : pm_nck (pm_ow c) (idx, w) = true := pm_all_at pm_nls_ok pm_ows_ok.2.1 h
theorem pm_ar_ok {c idx : Nat} {w : Nat} (h : pm_ar c idx = some w) : Cond.classLink (pm_ow c) idx "LambdaShelf$Code" ∈ lw_tbl := pm_at_mem (pm_all_at (ck := fun o q => pm_at q.2 (.classLink o q.1 "LambdaShelf$Code")) pm_als_ok pm_ows_ok.2.2.1 h)
set_option maxRecDepth 100000 in
theorem pm_lk_ok {c idx : Nat} {w : Int64 × Nat} (h : pm_lk c idx = some w) : Cond.constantLong (pm_ow c) idx w.1 ∈ lw_tbl := by
  have h1 : pm_at w.2 (.constantLong (pm_ow c) idx w.1) = true := pm_all_at (ck := fun o q => pm_at q.2.2 (.constantLong o q.1 q.2.1)) pm_lls_ok pm_ows_ok.2.2.2 h
  exact pm_at_mem h1
theorem pm_cl_ok {ci : Nat} {r : vw_C} (h : pm_cl[ci]? = some r) : (∀ k, k < r.2.2 → parseFieldDescriptor (r.2.1 k).2.2.1 = some (pm_fty ci k)) ∧ (∀ a, a < r.2.2 → ∀ b, b < r.2.2 → a ≠ b → (r.2.1 a).2.1 ≠ (r.2.1 b).2.1) ∧ (∀ w ∈ u_ws r.1 r.2.1 r.2.2, w ∈ pm_tb) ∧ Cond.instantiable r.1 r.2.2 ∈ pm_tb ∧ Cond.initialized r.1 ∈ pm_tb ∧ ∃ fs, pm_dfs[ci]? = some fs ∧ fs.length = r.2.2 ∧ ∀ j, j < r.2.2 → defaultValue (pm_fty ci j) = vp_V fs j := by
  have hl : ci < pm_cl.length := (List.getElem?_eq_some_iff.mp h).1
  have h1 := List.all_eq_true.mp pm_cck_ok ci (List.mem_range.mpr hl)
  unfold pm_cck at h1
  rw [h] at h1
  cases hf : pm_dfs[ci]? with
  | none => rw [hf] at h1; cases h1
  | some fs =>
    rw [hf] at h1
    simp only [Bool.and_eq_true, decide_eq_true_eq] at h1
    obtain ⟨⟨⟨h2, h3⟩, h4⟩, h5⟩ := h1
    have hk : ∀ k, k < r.2.2 → _ := fun k hk => List.all_eq_true.mp h2 k (List.mem_range.mpr hk)
    simp only [Bool.and_eq_true, decide_eq_true_eq] at hk
    refine ⟨fun k q => (hk k q).1.1.1, fun a ha b hb hab => ?_, fun w hw => ?_, pm_at_good h3 rfl, pm_at_good h4 rfl, fs, rfl, h5, fun j q => (hk j q).1.2⟩
    · have := List.all_eq_true.mp (hk a ha).2 b (List.mem_range.mpr hb)
      simp only [Bool.or_eq_true, decide_eq_true_eq] at this
      rcases this with q | q
      · exact absurd q.symm hab
      · exact q
    · obtain ⟨k, hk1, rfl⟩ := List.mem_map.mp hw
      exact pm_at_good (hk k (List.mem_range.mp hk1)).1.1.2 (by unfold u_lay; split <;> rfl)
/-- the words on nest mates, and on the array of references: they go along with the state -/
def pm_isn (w : Cond) : Bool := match w with
  | .fieldLinkNest .. => true
  | .methodLinkNest .. => true
  | _ => false
def pm_Nn (U : State) : Prop := (∀ w ∈ lw_tbl, pm_isn w = true → va_Nw w U) ∧ va_AO "LambdaShelf$Code" U
theorem pm_Nn.warm {s U : State} (hW : s.WarmedH U.vm) (h : pm_Nn s) : pm_Nn U := by
  refine ⟨fun w hw hn => ?_, h.2.moved hW.alike⟩
  have h1 := h.1 w hw hn
  cases w with
  | fieldLinkNest a b c d e f => exact h1.warmF hW
  | methodLinkNest a b c d => exact h1.warmM hW
  | _ => cases hn
theorem pm_Nn.same {u U : State} (hvm : u.vm = U.vm) (h : pm_Nn u) : pm_Nn U := by
  refine ⟨fun w hw hn => ?_, h.2.moved (by rw [hvm]; exact Vm.Alike.refl _)⟩
  have h1 := h.1 w hw hn
  cases w with
  | fieldLinkNest a b c d e f => exact h1.same rfl hvm
  | methodLinkNest a b c d => exact h1.same rfl hvm
  | _ => cases hn
theorem pm_fr_facts {c idx ci k nd ps : Nat} (h : pm_fr c idx = some (ci, k, nd, ps)) : ∃ (C : String) (F : u_T) (N : Nat), pm_cl[ci]? = some (C, F, N) ∧ k < N ∧ (F k).1 = C ∧
    ((nd = 0 ∧ (F k).2.2.2 = false ∧ Cond.fieldLink (pm_ow c) idx C (F k).2.1 (F k).2.2.1 ∈ pm_tb) ∨ (nd = 1 ∧ (F k).2.2.2 = false ∧ Cond.fieldLinkNest (pm_ow c) idx C (F k).2.1 (F k).2.2.1 "LambdaShelf" ∈ lw_tbl)
     ∨ (nd = 2 ∧ (F k).2.2.2 = true ∧ Cond.fieldLink (pm_ow c) idx C (F k).2.1 (F k).2.2.1 ∈ pm_tb) ∨ (nd = 3 ∧ Cond.fieldLinkNest (pm_ow c) idx C (F k).2.1 (F k).2.2.1 "LambdaShelf" ∈ lw_tbl)) := by
  have hck := pm_fr_ok h
  unfold pm_fck at hck
  dsimp only at hck
  cases hcl : pm_cl[ci]? with
  | none => rw [hcl] at hck; cases hck
  | some r =>
    obtain ⟨C, F, N⟩ := r
    rw [hcl] at hck
    dsimp only at hck
    simp only [Bool.and_eq_true, decide_eq_true_eq] at hck
    obtain ⟨⟨h1, h2⟩, h3⟩ := hck
    refine ⟨C, F, N, rfl, h1, h2, ?_⟩
    match nd, h3 with
    | 0, h3 =>
      simp only [Bool.and_eq_true, decide_eq_true_eq] at h3
      exact Or.inl ⟨rfl, h3.1, pm_at_good h3.2 rfl⟩
    | 1, h3 =>
      simp only [Bool.and_eq_true, decide_eq_true_eq] at h3
      exact Or.inr (Or.inl ⟨rfl, h3.1, pm_at_mem h3.2⟩)
    | 2, h3 =>
      simp only [Bool.and_eq_true, decide_eq_true_eq] at h3
      exact Or.inr (Or.inr (Or.inl ⟨rfl, h3.1, pm_at_good h3.2 rfl⟩))
    | 3, h3 =>
      simp only [Bool.and_eq_true, decide_eq_true_eq] at h3
      exact Or.inr (Or.inr (Or.inr ⟨rfl, pm_at_mem h3.2⟩))
    | n + 4, h3 => cases h3
section PMHP
variable {p : Program} {l : Launch} {e : Env} {R : Room} {s : State} {m : MethodId} {args : Array Value} {below : List Frame} {meth : Method} {c : Code} {H : Heap} {locs : List Loc} {cells slots : Nat} {Q : State → Prop}
variable {cc : ByteArray} {pc nL : Nat} {ls : Array Slot} {bS : Nat} {ad : List Nat} {D : va_G} {A : Nat → Prop} {H0 : Heap} {ws : va_W} {ph : List va_E} {T : pm_M}
theorem pm_alen_ok (hx : p.tables.exec = Jvm.exec) (hb : c.code = cc) (hK : va_K D pm_cl [] s) (hP : va_P D pm_cl ws H) {k a n : Nat} {e0 e' : va_E} {r' : List Value} (h0 : pm_aln ph k = some n) (hk : ph[k]? = some e0) (he : ws[k]? = some (a, e')) (hc : pm_rc bS ad s e0 e') (hd : decode cc pc = .ok (.arraylength, 1))
    (kk : W p l e R s m args below meth c H locs cells slots Q (F0 m (pc + 1) ls (.int (Int32.ofNat n) :: r'))) : W p l e R s m args below meth c H locs cells slots Q (F0 m pc ls (.ref a :: r')) := by
  unfold pm_aln at h0
  rw [hk] at h0
  split at h0
  · rename_i t n1 f heq
    cases heq
    cases h0
    obtain ⟨cA, rfl, h1, h2⟩ := hc
    exact va_alen hx hb (pm_K1 hK h1 h2) hP k 0 he rfl rfl hd kk
  · rename_i t n1 f heq
    cases heq
    cases h0
    obtain ⟨cA, rfl, h1, h2⟩ := hc
    exact va_alen hx hb (pm_K1 hK h1 h2) hP k 0 he rfl rfl hd kk
  · rename_i t n1 f heq
    cases heq
    cases h0
    obtain ⟨cA, g, rfl, -, h1, h2⟩ := hc
    exact va_alen hx hb (pm_K1 hK h1 h2) hP k 0 he rfl rfl hd kk
  · cases h0
theorem pm_rd_ok (hx : p.tables.exec = Jvm.exec) (hb : c.code = cc) (hown : s.vm.findClass (pm_ow (pm_cn T)) = some m.cls) (hts : ∀ w ∈ pm_tb, w.before args s = true) (hN : pm_Nn s) (hK : va_K D pm_cl [] s) (hP : va_P D pm_cl ws H) (hS : va_S A H0 H locs) (hw : pm_rw bS ad s ph ws)
    {scr : Option (Nat × (Nat → Int32))} (hX : ∀ x, scr = some x → va_X bS x.1 x.2 s H0 ∧ bS < H0.size ∧ ¬ A bS) {i : Instr} {st st2 stA : List Value} (h : pm_rd T scr i st ph = some st2) (hd : decode cc pc = .ok (i, pm_len i)) (hs : pm_rs bS ad st stA)
    (kk : ∀ stA2 : List Value, pm_rs bS ad st2 stA2 → W p l e R s m args below meth c H locs cells slots Q (F0 m (pc + pm_len i) ls stA2)) : W p l e R s m args below meth c H locs cells slots Q (F0 m pc ls stA) := by
  cases i
  case getfield idx =>
    obtain ⟨⟨a, r⟩, h1, h⟩ := Option.bind_eq_some_iff.mp h
    obtain ⟨⟨ci, k, nd, ps⟩, h2, h⟩ := Option.bind_eq_some_iff.mp h
    obtain ⟨fs, h3, h⟩ := Option.bind_eq_some_iff.mp h
    obtain ⟨v, h4, h⟩ := Option.bind_eq_some_iff.mp h
    cases h
    obtain rfl := pm_r1_ok h1
    obtain ⟨a', r', ha, rfl, hr⟩ := pm_rs_r hs
    obtain ⟨e', he, hc⟩ := hw.at (pm_ob_ok h3) ha
    obtain ⟨fs', rfl, hf⟩ := hc
    obtain ⟨w, hw1, hw2⟩ := pm_rs_get hf h4
    obtain ⟨C, F, N, hcl, hk, hdecl, hq⟩ := pm_fr_facts h2
    have hin := (pm_cl_ok hcl).2.2.1
    have hsame : ∀ x, s.fieldFound? (F k).1 (F k).2.1 (F k).2.2.1 = some x → s.fieldFound? C (F k).2.1 (F k).2.2.1 = some x := fun x q => by rw [hdecl] at q; exact q
    have k1 := kk (w :: r') ⟨hw2, hr⟩
    rcases hq with ⟨-, -, q⟩ | ⟨-, -, q⟩ | ⟨-, -, q⟩ | ⟨-, q⟩
    · exact va_get hx hb hts hin hown hK hP a he hcl k hk (hts _ q) hsame hw1 hd k1
    · exact va_getN hx hb hts hin hown hK hP a he hcl k hk ((hN.1 _ q rfl).use rfl) hsame hw1 hd k1
    · exact va_get hx hb hts hin hown hK hP a he hcl k hk (hts _ q) hsame hw1 hd k1
    · exact va_getN hx hb hts hin hown hK hP a he hcl k hk ((hN.1 _ q rfl).use rfl) hsame hw1 hd k1
  case iaload =>
    obtain ⟨⟨i, r⟩, h1, h9⟩ := Option.bind_eq_some_iff.mp h
    clear h
    obtain rfl := pm_i1_ok h1
    obtain ⟨r1, rfl, hr⟩ := pm_rs_i hs
    dsimp only at h9
    split at h9
    · rename_i r2 hr2
      obtain ⟨x, hscr, h8⟩ := Option.bind_eq_some_iff.mp h9
      obtain ⟨j, h3, h7⟩ := Option.bind_eq_some_iff.mp h8
      cases h7
      obtain ⟨k, rfl⟩ := pm_s1_ok hr2
      obtain ⟨r3, rfl, hr3⟩ := pm_rs_s hr
      obtain ⟨hin, rfl⟩ := pm_ix_ok h3
      obtain ⟨hX1, hX2, hX3⟩ := hX x hscr
      exact va_sld hx hb hX1 hX2 hX3 hS hin hd (kk _ ⟨rfl, hr3⟩)
    · obtain ⟨⟨a, r2⟩, h2, h9⟩ := Option.bind_eq_some_iff.mp h9
      obtain ⟨⟨n, f⟩, h3, h9⟩ := Option.bind_eq_some_iff.mp h9
      obtain ⟨j, h4, h9⟩ := Option.bind_eq_some_iff.mp h9
      cases h9
      obtain rfl := pm_r1_ok h2
      obtain ⟨a', r', ha, rfl, hr'⟩ := pm_rs_r hr
      obtain ⟨hin, rfl⟩ := pm_ix_ok h4
      obtain ⟨e', he, hc⟩ := hw.at (pm_ia_ok h3) ha
      obtain ⟨cA, rfl, q1, q2⟩ := hc
      exact va_iald hx hb (pm_K1 hK q1 q2) hP a 0 he rfl hin hd (kk _ ⟨rfl, hr'⟩)
  case baload =>
    obtain ⟨⟨i, r⟩, h1, h⟩ := Option.bind_eq_some_iff.mp h
    obtain ⟨⟨a, r2⟩, h2, h⟩ := Option.bind_eq_some_iff.mp h
    obtain ⟨⟨n, f⟩, h3, h⟩ := Option.bind_eq_some_iff.mp h
    obtain ⟨j, h4, h⟩ := Option.bind_eq_some_iff.mp h
    cases h
    obtain rfl := pm_i1_ok h1
    obtain ⟨r1, rfl, hr⟩ := pm_rs_i hs
    obtain rfl := pm_r1_ok h2
    obtain ⟨a', r', ha, rfl, hr'⟩ := pm_rs_r hr
    obtain ⟨hin, rfl⟩ := pm_ix_ok h4
    obtain ⟨e', he, hc⟩ := hw.at (pm_ia_ok h3) ha
    obtain ⟨cA, rfl, q1, q2⟩ := hc
    exact va_zald hx hb (pm_K1 hK q1 q2) hP a 0 he rfl hin hd (kk _ ⟨rfl, hr'⟩)
  case laload =>
    obtain ⟨⟨i, r⟩, h1, h⟩ := Option.bind_eq_some_iff.mp h
    obtain ⟨⟨a, r2⟩, h2, h⟩ := Option.bind_eq_some_iff.mp h
    obtain ⟨⟨n, f⟩, h3, h⟩ := Option.bind_eq_some_iff.mp h
    obtain ⟨j, h4, h⟩ := Option.bind_eq_some_iff.mp h
    cases h
    obtain rfl := pm_i1_ok h1
    obtain ⟨r1, rfl, hr⟩ := pm_rs_i hs
    obtain rfl := pm_r1_ok h2
    obtain ⟨a', r', ha, rfl, hr'⟩ := pm_rs_r hr
    obtain ⟨hin, rfl⟩ := pm_ix_ok h4
    obtain ⟨e', he, hc⟩ := hw.at (pm_la_ok h3) ha
    obtain ⟨cA, rfl, q1, q2⟩ := hc
    exact va_lald hx hb (pm_K1 hK q1 q2) hP a 0 he rfl hin hd (kk _ ⟨rfl, hr'⟩)
  case aaload =>
    obtain ⟨⟨i, r⟩, h1, h⟩ := Option.bind_eq_some_iff.mp h
    obtain ⟨⟨a, r2⟩, h2, h⟩ := Option.bind_eq_some_iff.mp h
    obtain ⟨⟨n, f⟩, h3, h⟩ := Option.bind_eq_some_iff.mp h
    obtain ⟨j, h4, h⟩ := Option.bind_eq_some_iff.mp h
    cases h
    obtain rfl := pm_i1_ok h1
    obtain ⟨r1, rfl, hr⟩ := pm_rs_i hs
    obtain rfl := pm_r1_ok h2
    obtain ⟨a', r', ha, rfl, hr'⟩ := pm_rs_r hr
    obtain ⟨hin, rfl⟩ := pm_ix_ok h4
    obtain ⟨e', he, hc⟩ := hw.at (pm_ra_ok h3) ha
    obtain ⟨cA, g, rfl, hg, q1, q2⟩ := hc
    have hv : pm_rv bS ad (pm_vo (f i.toNatClampNeg)) (va_rf (g i.toNatClampNeg)) := by
      have h9 := hg i.toNatClampNeg
      cases hf : f i.toNatClampNeg with
      | none => rw [hf] at h9; rw [show g i.toNatClampNeg = none from h9]; rfl
      | some k => rw [hf] at h9; obtain ⟨a9, h91, h92⟩ := h9; rw [h92]; exact ⟨a9, h91, rfl⟩
    exact va_aldq hx hb (pm_K1 hK q1 q2) hP a 0 he rfl hin hd (kk _ ⟨hv, hr'⟩)
  case arraylength =>
    replace h : (match pm_s1 st with
      | some r => scr.bind fun x => some (.int (Int32.ofNat x.1) :: r)
      | none => (pm_r1 st).bind fun w => (pm_aln ph w.1).bind fun n => some (.int (Int32.ofNat n) :: w.2)) = some st2 := h
    split at h
    · rename_i r2 hr2
      obtain ⟨x, rfl, h⟩ := Option.bind_eq_some_iff.mp h
      cases h
      obtain ⟨k, rfl⟩ := pm_s1_ok hr2
      obtain ⟨r3, rfl, hr3⟩ := pm_rs_s hs
      obtain ⟨hX1, hX2, hX3⟩ := hX x rfl
      exact va_slen hx hb hX1 hX2 hX3 hS hd (kk _ ⟨rfl, hr3⟩)
    · obtain ⟨⟨a, r2⟩, h2, h⟩ := Option.bind_eq_some_iff.mp h
      obtain ⟨n, h3, h⟩ := Option.bind_eq_some_iff.mp h
      cases h
      obtain rfl := pm_r1_ok h2
      obtain ⟨a', r', ha, rfl, hr'⟩ := pm_rs_r hs
      cases h0 : ph[a]? with
      | none =>
        replace h3 : pm_aln ph a = some n := h3
        unfold pm_aln at h3
        rw [h0] at h3
        cases h3
      | some e0 =>
        obtain ⟨e', he, hc⟩ := hw.at h0 ha
        exact pm_alen_ok hx hb hK hP h3 h0 he hc hd (kk _ ⟨rfl, hr'⟩)
  case ldc2_w idx =>
    obtain ⟨v, h1, h⟩ := Option.bind_eq_some_iff.mp h
    cases h
    exact lv_ldc2 hx hb hown (hts _ (List.mem_filter.mpr ⟨pm_lk_ok h1, rfl⟩)) hd (kk _ ⟨rfl, hs⟩)
  all_goals exact nomatch (show (none : Option (List Value)) = some st2 from h)
end PMHP
end
section
/-! THE PURE MACHINE, 5: writes and new cells are sound -/
theorem pm_ow_cl {ci : Nat} {r : vw_C} (h : pm_cl[ci]? = some r) : pm_ow ci = r.1 := by
  have hl : ci < pm_cl.length := (List.getElem?_eq_some_iff.mp h).1
  have h1 : (List.range pm_cl.length).all (fun k => decide (pm_ow k = (pm_cl.getD k ("", pm_F0, 0)).1)) = true := by decide +kernel
  have h2 := of_decide_eq_true (List.all_eq_true.mp h1 ci (List.mem_range.mpr hl))
  rw [h2, List.getD_eq_getElem?_getD, h]
  rfl
def pm_flv (v : Value) : Bool := match v with
  | .int _ => true
  | .long _ => true
  | .null => true
  | _ => false
theorem pm_rs_flat {bS : Nat} {ad : List Nat} : ∀ {fs : List Value}, fs.all pm_flv = true → pm_rs bS ad fs fs
  | [], _ => trivial
  | v :: r, h => by
    rw [List.all_cons, Bool.and_eq_true] at h
    refine ⟨?_, pm_rs_flat h.2⟩
    cases v with
    | int x => rfl
    | long x => rfl
    | null => rfl
    | _ => cases h.1
theorem pm_dfs_flat {ci : Nat} {fs : List Value} (h : pm_dfs[ci]? = some fs) {bS : Nat} {ad : List Nat} : pm_rs bS ad fs fs := by
  have h1 : pm_dfs.all (fun q => q.all pm_flv) = true := by decide +kernel
  exact pm_rs_flat (List.all_eq_true.mp h1 fs (List.mem_of_getElem? h))
theorem pm_arr_ok {a : ArrayType} {p : Nat} (h : (a, p) ∈ pm_arp) : Cond.arrayClass (newarray.typeOf a) ∈ pm_tb := pm_at_good (List.all_eq_true.mp pm_arp_ok _ h) rfl
section PMWR
variable {p : Program} {l : Launch} {e : Env} {R : Room} {s : State} {m : MethodId} {args : Array Value} {below : List Frame} {meth : Method} {c : Code} {H : Heap} {locs : List Loc} {cells slots : Nat} {Q : State → Prop}
variable {cc : ByteArray} {pc nL : Nat} {ls : Array Slot} {bS : Nat} {ad : List Nat} {D : va_G} {A : Nat → Prop} {H0 : Heap} {ws : va_W} {ph : List va_E} {T : pm_M}
theorem pm_wr_ok (hx : p.tables.exec = Jvm.exec) (hb : c.code = cc) (hown : s.vm.findClass (pm_ow (pm_cn T)) = some m.cls) (hini : pm_ini T = true → meth.name = "<init>") (hts : ∀ w ∈ pm_tb, w.before args s = true) (hN : pm_Nn s) (hK : va_K D pm_cl [] s) (hP : va_P D pm_cl ws H) (hD : va_D A ws) (hS : va_S A H0 H locs) (hw : pm_rw bS ad s ph ws)
    {i : Instr} {st st2 stA : List Value} {k2 : Nat} {e2 : va_E} (h : pm_wr T i st ph = some (st2, k2, e2)) (hd : decode cc pc = .ok (i, pm_len i)) (hs : pm_rs bS ad st stA)
    (kk : ∀ (H1 : Heap) (locs1 : List Loc) (ws1 : va_W) (stA2 : List Value), va_P D pm_cl ws1 H1 → va_D A ws1 → va_S A H0 H1 locs1 → pm_rw bS ad s (ph.set k2 e2) ws1 → pm_rs bS ad st2 stA2 → W p l e R s m args below meth c H1 locs1 cells slots Q (F0 m (pc + pm_len i) ls stA2)) : W p l e R s m args below meth c H locs cells slots Q (F0 m pc ls stA) := by
  cases i
  case putfield idx =>
    replace h : pm_pf T idx st ph = some (st2, k2, e2) := h
    unfold pm_pf at h
    split at h
    · rename_i v st1
      obtain ⟨⟨a, r⟩, h1, h⟩ := Option.bind_eq_some_iff.mp h
      obtain ⟨⟨ci, k, nd, ps⟩, h2, h⟩ := Option.bind_eq_some_iff.mp h
      obtain ⟨fs, h3, h⟩ := Option.bind_eq_some_iff.mp h
      dsimp only at h
      split at h
      · rename_i hcond
        obtain ⟨hfit, hlen, hkind⟩ := hcond
        cases h
        obtain ⟨w, r0, rfl, hv, hr0⟩ := pm_rs_cons hs
        obtain rfl := pm_r1_ok h1
        obtain ⟨a', r', ha, rfl, hr⟩ := pm_rs_r hr0
        obtain ⟨e', he, hc⟩ := hw.at (pm_ob_ok h3) ha
        obtain ⟨fs', rfl, hf⟩ := hc
        obtain ⟨C, F, N, hcl, hk, hdecl, hq⟩ := pm_fr_facts h2
        have hin := (pm_cl_ok hcl).2.2.1
        have hty := (pm_cl_ok hcl).1
        have hnm := (pm_cl_ok hcl).2.1
        have hsame : ∀ x, s.fieldFound? (F k).1 (F k).2.1 (F k).2.2.1 = some x → s.fieldFound? C (F k).2.1 (F k).2.2.1 = some x := fun x q => by rw [hdecl] at q; exact q
        obtain ⟨hn, hft⟩ := pm_fit_ok hfit hv
        have hl' : k < fs'.length := by rw [pm_rs_len hf]; exact hlen
        have k1 : ∀ (H1 : Heap) (locs1 : List Loc), va_P D pm_cl (ws.set k2 (a', .inr (ci, fs'.set k w))) H1 → va_D A (ws.set k2 (a', .inr (ci, fs'.set k w))) → va_S A H0 H1 locs1 → W p l e R s m args below meth c H1 locs1 cells slots Q (F0 m (pc + 3) ls r') := fun H1 locs1 hP1 hD1 hS1 => kk H1 locs1 _ _ hP1 hD1 hS1 (hw.set he ⟨_, rfl, pm_rs_set hv hf⟩) hr
        rcases hq with ⟨rfl, hfin, q⟩ | ⟨rfl, hfin, q⟩ | ⟨rfl, hfin, q⟩ | ⟨rfl, q⟩
        · exact va_put hx hb hts hin (pm_fty ci) hty hnm hown hK hP hD hS k2 he hcl k hk (hts _ q) hsame hfin (hty k hk) hn hft hl' hd k1
        · exact va_putN hx hb hts hin (pm_fty ci) hty hnm hown hK hP hD hS k2 he hcl k hk ((hN.1 _ q rfl).use rfl) hsame hfin (hty k hk) hn hft hl' hd k1
        · rcases hkind with h9 | h9 | ⟨-, h9, h10⟩
          · cases h9
          · cases h9
          · have hown2 : (F k).1 = pm_ow (pm_cn T) := by
              rw [hdecl]
              have := pm_ow_cl hcl
              rw [h10] at this
              exact this.symm
            exact va_putF hx hb hts hin (pm_fty ci) hty hnm hown hK hP hD hS k2 he hcl k hk (hts _ q) hsame hfin (hini h9) hown2 (hty k hk) hn hft hl' hd k1
        · rcases hkind with h9 | h9 | ⟨h9, -, -⟩ <;> cases h9
      · cases h
    · cases h
  case iastore =>
    obtain ⟨⟨v, r0⟩, h0, h⟩ := Option.bind_eq_some_iff.mp h
    obtain ⟨⟨i, r⟩, h1, h⟩ := Option.bind_eq_some_iff.mp h
    obtain ⟨⟨a, r2⟩, h2, h⟩ := Option.bind_eq_some_iff.mp h
    obtain ⟨⟨n, f⟩, h3, h⟩ := Option.bind_eq_some_iff.mp h
    obtain ⟨j, h4, h⟩ := Option.bind_eq_some_iff.mp h
    cases h
    obtain rfl := pm_i1_ok h0
    obtain ⟨r9, rfl, hs9⟩ := pm_rs_i hs
    obtain rfl := pm_i1_ok h1
    obtain ⟨r1, rfl, hr⟩ := pm_rs_i hs9
    obtain rfl := pm_r1_ok h2
    obtain ⟨a', r', ha, rfl, hr'⟩ := pm_rs_r hr
    obtain ⟨hin, rfl⟩ := pm_ix_ok h4
    obtain ⟨e', he, hc⟩ := hw.at (pm_ia_ok h3) ha
    obtain ⟨cA, rfl, q1, q2⟩ := hc
    exact va_iast hx hb (pm_K1 hK q1 q2) hP hD hS a 0 he rfl hin hd (fun H1 locs1 hP1 hD1 hS1 => kk H1 locs1 _ _ hP1 hD1 hS1 (hw.set he ⟨cA, rfl, q1, q2⟩) hr')
  case bastore =>
    obtain ⟨⟨v, r0⟩, h0, h⟩ := Option.bind_eq_some_iff.mp h
    obtain ⟨⟨i, r⟩, h1, h⟩ := Option.bind_eq_some_iff.mp h
    obtain ⟨⟨a, r2⟩, h2, h⟩ := Option.bind_eq_some_iff.mp h
    obtain ⟨⟨n, f⟩, h3, h⟩ := Option.bind_eq_some_iff.mp h
    obtain ⟨j, h4, h⟩ := Option.bind_eq_some_iff.mp h
    cases h
    obtain rfl := pm_i1_ok h0
    obtain ⟨r9, rfl, hs9⟩ := pm_rs_i hs
    obtain rfl := pm_i1_ok h1
    obtain ⟨r1, rfl, hr⟩ := pm_rs_i hs9
    obtain rfl := pm_r1_ok h2
    obtain ⟨a', r', ha, rfl, hr'⟩ := pm_rs_r hr
    obtain ⟨hin, rfl⟩ := pm_ix_ok h4
    obtain ⟨e', he, hc⟩ := hw.at (pm_ia_ok h3) ha
    obtain ⟨cA, rfl, q1, q2⟩ := hc
    exact va_zast hx hb (pm_K1 hK q1 q2) hP hD hS a 0 he rfl hin hd (fun H1 locs1 hP1 hD1 hS1 => kk H1 locs1 _ _ hP1 hD1 hS1 (hw.set he ⟨cA, rfl, q1, q2⟩) hr')
  case lastore =>
    obtain ⟨⟨v, r0⟩, h0, h⟩ := Option.bind_eq_some_iff.mp h
    obtain ⟨⟨i, r⟩, h1, h⟩ := Option.bind_eq_some_iff.mp h
    obtain ⟨⟨a, r2⟩, h2, h⟩ := Option.bind_eq_some_iff.mp h
    obtain ⟨⟨n, f⟩, h3, h⟩ := Option.bind_eq_some_iff.mp h
    obtain ⟨j, h4, h⟩ := Option.bind_eq_some_iff.mp h
    cases h
    obtain rfl := pm_l1_ok h0
    obtain ⟨r9, rfl, hs9⟩ := pm_rs_l hs
    obtain rfl := pm_i1_ok h1
    obtain ⟨r1, rfl, hr⟩ := pm_rs_i hs9
    obtain rfl := pm_r1_ok h2
    obtain ⟨a', r', ha, rfl, hr'⟩ := pm_rs_r hr
    obtain ⟨hin, rfl⟩ := pm_ix_ok h4
    obtain ⟨e', he, hc⟩ := hw.at (pm_la_ok h3) ha
    obtain ⟨cA, rfl, q1, q2⟩ := hc
    exact va_last hx hb (pm_K1 hK q1 q2) hP hD hS a 0 he rfl hin hd (fun H1 locs1 hP1 hD1 hS1 => kk H1 locs1 _ _ hP1 hD1 hS1 (hw.set he ⟨cA, rfl, q1, q2⟩) hr')
  case aastore =>
    obtain ⟨⟨v, r0⟩, h0, h⟩ := Option.bind_eq_some_iff.mp h
    obtain ⟨⟨i, r⟩, h1, h⟩ := Option.bind_eq_some_iff.mp h
    obtain ⟨⟨a, r2⟩, h2, h⟩ := Option.bind_eq_some_iff.mp h
    obtain ⟨⟨n, f⟩, h3, h⟩ := Option.bind_eq_some_iff.mp h
    obtain ⟨j, h4, h⟩ := Option.bind_eq_some_iff.mp h
    obtain ⟨fs, h5, h⟩ := Option.bind_eq_some_iff.mp h
    cases h
    obtain rfl := pm_r1_ok h0
    obtain ⟨v', r9, hva, rfl, hs9⟩ := pm_rs_r hs
    obtain rfl := pm_i1_ok h1
    obtain ⟨r1, rfl, hr⟩ := pm_rs_i hs9
    obtain rfl := pm_r1_ok h2
    obtain ⟨a', r', ha, rfl, hr'⟩ := pm_rs_r hr
    obtain ⟨hin, rfl⟩ := pm_ix_ok h4
    obtain ⟨e', he, hc⟩ := hw.at (pm_ra_ok h3) ha
    obtain ⟨cA, g, rfl, hg, q1, q2⟩ := hc
    obtain ⟨e9, he9, hc9⟩ := hw.at (pm_ob_ok h5) hva
    obtain ⟨fs9, rfl, -⟩ := hc9
    have hro : ∀ j9, pm_ro ad (va_up f i.toNatClampNeg (some v) j9) (va_up g i.toNatClampNeg (some v') j9) := by
      intro j9
      unfold va_up
      split
      · exact ⟨v', hva, rfl⟩
      · exact hg j9
    exact va_astq (r := ("LambdaShelf$Code", pm_F1, 3)) hx hb (pm_K1 hK q1 q2) hP hD hS a 0 v pm_cC he rfl he9 rfl hin hd (fun H1 locs1 hP1 hD1 hS1 => kk H1 locs1 _ _ hP1 hD1 hS1 (hw.set he ⟨cA, _, rfl, hro, q1, q2⟩) hr')
  all_goals exact nomatch (show (none : Option (List Value × Nat × va_E)) = some (st2, k2, e2) from h)
theorem pm_nw_ok (hx : p.tables.exec = Jvm.exec) (hb : c.code = cc) (hown : s.vm.findClass (pm_ow (pm_cn T)) = some m.cls) (hts : ∀ w ∈ pm_tb, w.before args s = true) (hN : pm_Nn s) (hK : va_K D pm_cl [] s) (hP : va_P D pm_cl ws H) (hD : va_D A ws) (hS : va_S A H0 H locs) (hA : ∀ q, H0.size ≤ q → A q) (hw : pm_rw bS ad s ph ws)
    {i : Instr} {st st2 stA : List Value} {n2 : Nat} {e2 : va_E} (h : pm_nw T i st = some (st2, e2, n2)) (hd : decode cc pc = .ok (i, pm_len i)) (hs : pm_rs bS ad st stA) (hcells : cells + 1 ≤ R.cells) (hslots : slots + n2 ≤ R.slots)
    (kk : ∀ (q : Nat) (H1 : Heap) (ws1 : va_W) (stA2 : List Value), va_P D pm_cl ws1 H1 → va_D A ws1 → va_S A H0 H1 locs → pm_rw bS (ad ++ [q]) s (ph ++ [e2]) ws1 → pm_rs bS (ad ++ [q]) (.ref ph.length :: st2) stA2 → W p l e R s m args below meth c H1 locs (cells + 1) (slots + n2) Q (F0 m (pc + pm_len i) ls stA2)) : W p l e R s m args below meth c H locs cells slots Q (F0 m pc ls stA) := by
  cases i
  case new idx =>
    obtain ⟨⟨ci, ps⟩, h1, h⟩ := Option.bind_eq_some_iff.mp h
    obtain ⟨fs, h2, h⟩ := Option.bind_eq_some_iff.mp h
    cases h
    have hck := pm_nr_ok h1
    unfold pm_nck at hck
    dsimp only at hck
    cases hcl : pm_cl[ci]? with
    | none => rw [hcl] at hck; cases hck
    | some r =>
      obtain ⟨C, F, N⟩ := r
      rw [hcl] at hck
      obtain ⟨hty, hnm, hin, hinst, hini, fs0, hf1, hf2, hf3⟩ := pm_cl_ok hcl
      try dsimp only at h2 hf1 hf2 hf3
      rw [hf1] at h2
      cases h2
      try dsimp only at hf2
      rw [hf2] at hslots kk
      exact va_new hx hb hts hin (pm_fty ci) hty hown (hts _ (pm_at_good hck rfl)) (hts _ hinst) (hts _ hini) hK hP hD hS hA hcl hf3 hcells hslots hd (fun q H1 hP1 hD1 hS1 => kk q H1 _ _ hP1 hD1 hS1 (hw.push ⟨_, rfl, pm_dfs_flat hf1⟩) ⟨⟨q, hw.new q, rfl⟩, hs.mono⟩)
  case newarray ty =>
    cases ty
    case int =>
      obtain ⟨⟨n, r⟩, h1, h⟩ := Option.bind_eq_some_iff.mp h
      dsimp only at h
      split at h
      · cases h
      · rename_i hc
        cases h
        obtain rfl := pm_i1_ok h1
        obtain ⟨r1, rfl, hr⟩ := pm_rs_i hs
        exact va_newa (ty := .int) (a0 := (n.toNatClampNeg, .inl (fun _ => 0))) hx hb (hts _ (pm_arr_ok (a := .int) List.mem_cons_self)) rfl hK hP hD hS hA (fun cA => rfl) (fun q => hc (Or.inl q)) rfl (by show _ * 4 ≤ _; omega) hcells hslots hd (fun q cA H1 hK1 hP1 hD1 hS1 => kk q H1 _ _ hP1 hD1 hS1 (hw.push ⟨cA, rfl, (hK1.2 0 _ rfl).1, (hK1.2 0 _ rfl).2⟩) ⟨⟨q, hw.new q, rfl⟩, hr.mono⟩)
    case boolean =>
      obtain ⟨⟨n, r⟩, h1, h⟩ := Option.bind_eq_some_iff.mp h
      dsimp only at h
      split at h
      · cases h
      · rename_i hc
        cases h
        obtain rfl := pm_i1_ok h1
        obtain ⟨r1, rfl, hr⟩ := pm_rs_i hs
        exact va_newa (ty := .boolean) (a0 := (n.toNatClampNeg, .inl (fun _ => 0))) hx hb (hts _ (pm_arr_ok (a := .boolean) (List.mem_cons_of_mem _ List.mem_cons_self))) rfl hK hP hD hS hA (fun cA => rfl) (fun q => hc (Or.inl q)) rfl (by show _ * 1 ≤ _; omega) hcells hslots hd (fun q cA H1 hK1 hP1 hD1 hS1 => kk q H1 _ _ hP1 hD1 hS1 (hw.push ⟨cA, rfl, (hK1.2 0 _ rfl).1, (hK1.2 0 _ rfl).2⟩) ⟨⟨q, hw.new q, rfl⟩, hr.mono⟩)
    case long =>
      obtain ⟨⟨n, r⟩, h1, h⟩ := Option.bind_eq_some_iff.mp h
      dsimp only at h
      split at h
      · cases h
      · rename_i hc
        cases h
        obtain rfl := pm_i1_ok h1
        obtain ⟨r1, rfl, hr⟩ := pm_rs_i hs
        exact va_newa (ty := .long) (a0 := (n.toNatClampNeg, .inr (.inl (fun _ => 0)))) hx hb (hts _ (pm_arr_ok (a := .long) (List.mem_cons_of_mem _ (List.mem_cons_of_mem _ List.mem_cons_self)))) rfl hK hP hD hS hA (fun cA => rfl) (fun q => hc (Or.inl q)) rfl (by show _ * 8 ≤ _; omega) hcells hslots hd (fun q cA H1 hK1 hP1 hD1 hS1 => kk q H1 _ _ hP1 hD1 hS1 (hw.push ⟨cA, rfl, (hK1.2 0 _ rfl).1, (hK1.2 0 _ rfl).2⟩) ⟨⟨q, hw.new q, rfl⟩, hr.mono⟩)
    all_goals exact nomatch (show (none : Option (List Value × va_E × Nat)) = some (st2, e2, n2) from h)
  case anewarray idx =>
    obtain ⟨ps, h0, h⟩ := Option.bind_eq_some_iff.mp h
    obtain ⟨⟨n, r⟩, h1, h⟩ := Option.bind_eq_some_iff.mp h
    dsimp only at h
    split at h
    · cases h
    · rename_i hc
      cases h
      obtain rfl := pm_i1_ok h1
      obtain ⟨r1, rfl, hr⟩ := pm_rs_i hs
      exact va_newq hx hb hown (hts _ (List.mem_filter.mpr ⟨pm_ar_ok h0, rfl⟩)) hN.2 hK hP hD hS hA (fun q => hc (Or.inl q)) rfl (by omega) hcells hslots hd (fun q cA H1 hK1 hP1 hD1 hS1 => kk q H1 _ _ hP1 hD1 hS1 (hw.push ⟨cA, _, rfl, fun j => rfl, (hK1.2 0 _ rfl).1, (hK1.2 0 _ rfl).2⟩) ⟨⟨q, hw.new q, rfl⟩, hr.mono⟩)
  all_goals exact nomatch (show (none : Option (List Value × va_E × Nat)) = some (st2, e2, n2) from h)
end PMWR
end
section
/-! THE PURE MACHINE, 6: library calls, returns, calls, the run -/
def pm_sum (st : List Value) : Nat := (st.map fun v => v.category).sum
def pm_mx (k : Nat) (st : List Value) : Option (List Value) := match st with
  | .int y :: .int x :: r => if pm_sum r ≤ 8 then (if k = 5 then some (.int (if x < y then y else x) :: r) else if k = 6 then some (.int (if y < x then y else x) :: r) else none) else none
  | _ => none
def pm_oi (k : Nat) (st : List Value) : Option (List Value) := match st with
  | .ref _ :: r => if k = 4 ∧ pm_sum r ≤ 8 then some r else none
  | _ => none
def pm_nat (T : pm_M) (i : Instr) (st : List Value) : Option (List Value) := match i with
  | .invokestatic idx => (pm_mr (pm_cn T) idx).bind fun w => pm_mx w.1 st
  | .invokespecial idx => (pm_mr (pm_cn T) idx).bind fun w => pm_oi w.1 st
  | _ => none
def pm_cp5 (k : Nat) (st : List Value) (ph : List va_E) : Option (List Value × Nat × va_E) := match st with
  | .int n :: .int dp :: .ref a :: .int sp :: .ref b :: r => (pm_ia ph b 0).bind fun x => (pm_ia ph a 0).bind fun y =>
    if k = 7 ∧ ¬ sp < 0 ∧ ¬ dp < 0 ∧ ¬ n < 0 ∧ sp.toNatClampNeg + n.toNatClampNeg ≤ x.1 ∧ dp.toNatClampNeg + n.toNatClampNeg ≤ y.1 ∧ pm_sum r ≤ 8 then some (r, a, .inl (0, y.1, .inl (va_cpy x.2 y.2 sp.toNatClampNeg dp.toNatClampNeg n.toNatClampNeg))) else none
  | _ => none
def pm_cpw (T : pm_M) (i : Instr) (st : List Value) (ph : List va_E) : Option (List Value × Nat × va_E) := match i with
  | .invokestatic idx => (pm_mr (pm_cn T) idx).bind fun w => pm_cp5 w.1 st ph
  | _ => none
def pm_rvd (T : pm_M) (st : List Value) : Option (Option Value) := match st, pm_re T with
  | [], none => some none
  | _, _ => none
def pm_rin (T : pm_M) (st : List Value) : Option (Option Value) := match st, pm_re T with
  | [.int v], some ty => if pm_fit ty (.int v) = true then some (some (.int v)) else none
  | _, _ => none
def pm_rar (T : pm_M) (st : List Value) : Option (Option Value) := match st, pm_re T with
  | [.ref a], some (.object _) => some (some (.ref a))
  | [.null], some (.object _) => some (some .null)
  | _, _ => none
def pm_ret (T : pm_M) (i : Instr) (st : List Value) : Option (Option Value) := match i with
  | .return_ => pm_rvd T st
  | .ireturn => pm_rin T st
  | .areturn => pm_rar T st
  | _ => none
def pm_cal (T : pm_M) (i : Instr) (st : List Value) (ph : List va_E) : Option (pm_M × List Value × List Value) := match i with
  | .invokevirtual idx => (pm_mr (pm_cn T) idx).bind fun w => (pm_tab[w.2.1]?).bind fun T2 => (pm_r1 (st.drop (pm_na T2))).bind fun q => (pm_ob ph q.1 (pm_cn T2)).bind fun _ =>
    if w.1 = 0 ∧ pm_sum q.2 ≤ 8 ∧ pm_sum (.ref q.1 :: (st.take (pm_na T2)).reverse) ≤ pm_ml T2 ∧ (st.take (pm_na T2)).length = pm_na T2 ∧ pm_ps T2 ≠ 0 then some (T2, .ref q.1 :: (st.take (pm_na T2)).reverse, q.2) else none
  | .invokespecial idx => (pm_mr (pm_cn T) idx).bind fun w => (pm_tab[w.2.1]?).bind fun T2 => (pm_r1 (st.drop (pm_na T2))).bind fun q =>
    if (w.1 = 1 ∨ w.1 = 2) ∧ pm_sum q.2 ≤ 8 ∧ pm_sum (.ref q.1 :: (st.take (pm_na T2)).reverse) ≤ pm_ml T2 ∧ (st.take (pm_na T2)).length = pm_na T2 ∧ pm_ps T2 ≠ 0 then some (T2, .ref q.1 :: (st.take (pm_na T2)).reverse, q.2) else none
  | .invokestatic idx => (pm_mr (pm_cn T) idx).bind fun w => (pm_tab[w.2.1]?).bind fun T2 =>
    if w.1 = 3 ∧ pm_sum (st.drop (pm_na T2)) ≤ 8 ∧ pm_sum (st.take (pm_na T2)).reverse ≤ pm_ml T2 ∧ (st.take (pm_na T2)).length = pm_na T2 ∧ pm_ps T2 ≠ 0 then some (T2, (st.take (pm_na T2)).reverse, st.drop (pm_na T2)) else none
  | _ => none
def pm_run : Nat → Option (Nat × (Nat → Int32)) → Nat → pm_M → Nat → pm_L → List Value → List va_E → Nat → Nat → Option (Option Value × List va_E × Nat × Nat)
  | 0, _, _, _, _, _, _, _, _, _ => none
  | f + 1, scr, d, T, pc, lv, st, ph, nc, ns =>
    match pm_as (pm_cd T) pc with
    | none => none
    | some w =>
      match pm_sim (pm_ml T) w.1 lv st with
      | some x => pm_run f scr d T (pc + pm_len w.1) x.1 x.2 ph nc ns
      | none => match pm_jmp w.1 pc st with
        | some x => pm_run f scr d T x.1 lv x.2 ph nc ns
        | none => match pm_rd T scr w.1 st ph with
          | some x => pm_run f scr d T (pc + pm_len w.1) lv x ph nc ns
          | none => match pm_wr T w.1 st ph with
            | some x => pm_run f scr d T (pc + pm_len w.1) lv x.1 (ph.set x.2.1 x.2.2) nc ns
            | none => match pm_nw T w.1 st with
              | some x => pm_run f scr d T (pc + pm_len w.1) lv (.ref ph.length :: x.1) (ph ++ [x.2.1]) (nc + 1) (ns + x.2.2)
              | none => match pm_nat T w.1 st with
                | some x => pm_run f scr d T (pc + pm_len w.1) lv x ph nc ns
                | none => match pm_cpw T w.1 st ph with
                  | some x => pm_run f scr d T (pc + pm_len w.1) lv x.1 (ph.set x.2.1 x.2.2) nc ns
                  | none => match pm_ret T w.1 st with
                    | some v => some (v, ph, nc, ns)
                    | none => match d with
                      | 0 => none
                      | d2 + 1 => match pm_cal T w.1 st ph with
                        | none => none
                        | some x => match pm_run f none d2 x.1 0 (lv_args 0 x.2.1) [] ph 0 0 with
                          | none => none
                          | some y => pm_run f scr (d2 + 1) T (pc + pm_len w.1) lv (y.1.toList ++ x.2.2) y.2.1 (nc + y.2.2.1) (ns + y.2.2.2)
theorem pm_run_mono : ∀ (f : Nat) {scr : Option (Nat × (Nat → Int32))} {d : Nat} {T : pm_M} {pc : Nat} {lv : pm_L} {st : List Value} {ph : List va_E} {nc ns : Nat} {v : Option Value} {ph2 : List va_E} {nc2 ns2 : Nat}, pm_run f scr d T pc lv st ph nc ns = some (v, ph2, nc2, ns2) → nc ≤ nc2 ∧ ns ≤ ns2
  | 0, _, _, _, _, _, _, _, _, _, _, _, _, _, h => by cases h
  | f + 1, scr, d, T, pc, lv, st, ph, nc, ns, v, ph2, nc2, ns2, h => by
    unfold pm_run at h
    split at h
    · cases h
    split at h
    · exact pm_run_mono f h
    split at h
    · exact pm_run_mono f h
    split at h
    · exact pm_run_mono f h
    split at h
    · exact pm_run_mono f h
    split at h
    · have := pm_run_mono f h
      omega
    split at h
    · exact pm_run_mono f h
    split at h
    · exact pm_run_mono f h
    split at h
    · cases h
      exact ⟨Nat.le_refl _, Nat.le_refl _⟩
    split at h
    · cases h
    split at h
    · cases h
    split at h
    · cases h
    have := pm_run_mono f h
    omega
theorem pm_isw_none {i : Instr} (h : pm_isw i = true) (nL : Nat) (lv : pm_L) (st : List Value) (T : pm_M) (scr : Option (Nat × (Nat → Int32))) (ph : List va_E) : pm_sim nL i lv st = none ∧ pm_rd T scr i st ph = none ∧ pm_wr T i st ph = none ∧ pm_nw T i st = none ∧ pm_nat T i st = none ∧ pm_cpw T i st ph = none ∧ pm_ret T i st = none ∧ pm_cal T i st ph = none := by
  cases i
  case tableswitch => exact ⟨rfl, rfl, rfl, rfl, rfl, rfl, rfl, rfl⟩
  case lookupswitch => exact ⟨rfl, rfl, rfl, rfl, rfl, rfl, rfl, rfl⟩
  all_goals cases h
theorem pm_lg_len : ∀ (vs : List Value), (lg_sl vs).length = pm_sum vs
  | [] => rfl
  | v :: r => by
    have ih := pm_lg_len r
    unfold lg_sl pm_sum at *
    rw [List.flatMap_cons, List.length_append, ih, List.map_cons, List.sum_cons]
    rcases lv_cat v with hc | hc
    · rw [if_neg (by omega), hc]; rfl
    · rw [if_pos hc, hc]; rfl
theorem pm_rs_sum {bS : Nat} {ad : List Nat} {a a' : List Value} (h : pm_rs bS ad a a') : pm_sum a' = pm_sum a := by
  unfold pm_sum
  rw [pm_rs_cats h]
theorem pm_rl_args {bS : Nat} {ad : List Nat} : ∀ {a a' : List Value} (n : Nat), pm_rs bS ad a a' → pm_rl bS ad (lv_args n a) (lv_args n a')
  | [], [], _, _ => trivial
  | v :: r, w :: r', n, h => by
    unfold lv_args
    rw [h.1.cat]
    exact ⟨rfl, h.1, pm_rl_args _ h.2⟩
  | [], _ :: _, _, h => h.elim
  | _ :: _, [], _, h => h.elim
def pm_rov (bS : Nat) (ad : List Nat) (v w : Option Value) : Prop := match v, w with
  | none, none => True
  | some v, some w => pm_rv bS ad v w
  | _, _ => False
def pm_PC (bS : Nat) (D : va_G) (ws : va_W) (ad : List Nat) (ph : List va_E) (sz : Nat) (U : State) : Prop := U.heap.size = sz ∧ va_P D pm_cl ws U.heap ∧ va_K D pm_cl [] U ∧ va_D (fun _ => True) ws ∧ pm_Nn U ∧ pm_rw bS ad U ph ws
def pm_QC (bS : Nat) (D : va_G) (ws : va_W) (ad : List Nat) (sz : Nat) (v : Option Value) (ph2 : List va_E) : Array Value → State → Outcome → State → Prop := fun _ st oc t => (∃ (vA : Option Value) (ad2 : List Nat) (ws2 : va_W), oc = .returned vA ∧ pm_rov bS (ad ++ ad2) v vA ∧ pm_rw bS (ad ++ ad2) t ph2 ws2 ∧ va_P D pm_cl ws2 t.heap ∧ va_D (va_A ws sz) ws2) ∧ va_F (va_A ws sz) st t
def pm_wd (T : pm_M) : List Cond := .code (pm_nm T) (pm_by T) (pm_ml T) (pm_re T) :: pm_tb
def pm_rm (d c n : Nat) : Room := { frames := d + 1, cells := c, slots := n, locals := 40 * (d + 1) }
def pm_cx (D : va_G) (p : Program) (s : State) (m : MethodId) (args : Array Value) (meth : Method) (c : Code) (T : pm_M) : Prop :=
  p.tables.exec = Jvm.exec ∧ c.code = pm_by T ∧ c.maxLocals = pm_ml T ∧ s.vm.findClass (pm_ow (pm_cn T)) = some m.cls ∧ (pm_ini T = true → meth.name = "<init>") ∧ (∀ w ∈ pm_tb, w.before args s = true) ∧ pm_Nn s ∧ va_K D pm_cl [] s
/-- the machine does what a run of f steps says -/
def pm_Snd (l : Launch) (f : Nat) : Prop := ∀ (bS : Nat) (scr : Option (Nat × (Nat → Int32))) (d : Nat) (T : pm_M) (pc : Nat) (lv : pm_L) (st : List Value) (ph : List va_E) (nc ns : Nat) (v : Option Value) (ph2 : List va_E) (nc2 ns2 : Nat), pm_run f scr d T pc lv st ph nc ns = some (v, ph2, nc2, ns2) → pm_dck T = true →
  ∀ (D : va_G) (p : Program) (e : Env) (R : Room) (s : State) (m : MethodId) (args : Array Value) (below : List Frame) (meth : Method) (c : Code) (H : Heap) (locs : List Loc) (Q : State → Prop) (A : Nat → Prop) (H0 : Heap) (ws : va_W) (ad : List Nat) (ls : Array Slot) (lvA : pm_L) (stA : List Value),
  pm_cx D p s m args meth c T → d + 1 ≤ R.frames → 40 * (d + 1) ≤ R.locals → nc2 ≤ R.cells → ns2 ≤ R.slots →
  va_P D pm_cl ws H → va_D A ws → va_S A H0 H locs → (∀ q, H0.size ≤ q → A q) → pm_rw bS ad s ph ws → lv_has ls (pm_ml T) lvA → pm_rl bS ad lv lvA → pm_rs bS ad st stA → (∀ x, scr = some x → va_X bS x.1 x.2 s H0 ∧ bS < H0.size ∧ ¬ A bS) →
  (∀ (H1 : Heap) (locs1 : List Loc) (ws1 : va_W) (ad2 : List Nat) (ls1 : Array Slot) (pc1 : Nat) (i1 : Instr) (st1 stA1 : List Value), pm_ret T i1 st1 = some v → decode (pm_by T) pc1 = .ok (i1, pm_len i1) → pm_rs bS (ad ++ ad2) st1 stA1 → pm_rw bS (ad ++ ad2) s ph2 ws1 → va_P D pm_cl ws1 H1 → va_D A ws1 → va_S A H0 H1 locs1 → W p l e R s m args below meth c H1 locs1 nc2 ns2 Q (F0 m pc1 ls1 stA1)) →
  W p l e R s m args below meth c H locs nc ns Q (F0 m pc ls stA)
/-- what a method's row of the table says -/
theorem pm_tck_use {T : pm_M} (h : pm_tck T = true) : pm_ow (pm_cn T) = (pm_nm T).cls ∧ (pm_ini T = true → (pm_nm T).name = "<init>") ∧ (pm_ps T ≠ 0 → Cond.initialized (pm_nm T).cls ∈ pm_tb ∧ plainName (pm_nm T).cls = true ∧ (pm_nm T).cls ≠ "java/lang/invoke/MethodHandle" ∧ (pm_nm T).cls ≠ "java/lang/invoke/VarHandle" ∧ (parseMethodDescriptor (pm_nm T).desc).map (fun d => d.parameters.length) = some (pm_na T) ∧ pm_ml T ≤ 21) := by
  unfold pm_tck at h
  simp only [Bool.and_eq_true, Bool.or_eq_true, decide_eq_true_eq, Bool.not_eq_true'] at h
  obtain ⟨⟨h1, h2⟩, h3⟩ := h
  refine ⟨h1, fun q => ?_, fun q => ?_⟩
  · rcases h2 with h2 | h2
    · rw [h2] at q; cases q
    · exact h2
  · rcases h3 with h3 | h3
    · exact absurd h3 q
    · obtain ⟨⟨⟨⟨⟨a2, a3⟩, a4⟩, a5⟩, a6⟩, a7⟩ := h3
      exact ⟨pm_at_good a2 rfl, a3, a4, a5, a6, a7⟩
theorem pm_met {l : Launch} {f : Nat} (hf : pm_Snd l f) {bS d : Nat} {T : pm_M} {as : List Value} {ph : List va_E} {v : Option Value} {ph2 : List va_E} {c2 n2 : Nat} (h : pm_run f none d T 0 (lv_args 0 as) [] ph 0 0 = some (v, ph2, c2, n2)) (hg : pm_dck T = true) (ht : pm_tck T = true) (hps : pm_ps T ≠ 0) (hsum : pm_sum as ≤ pm_ml T)
    {D : va_G} {ws : va_W} {ad : List Nat} {sz : Nat} {asA : List Value} (has : pm_rs bS ad as asA) : Met l (pm_nm T) (pm_wd T) (pm_rm d c2 n2) (va_Pc asA (pm_PC bS D ws ad ph sz)) (pm_QC bS D ws ad sz v ph2) c2 n2 (va_A ws sz) := by
  obtain ⟨t1, t2, t3⟩ := pm_tck_use ht
  obtain ⟨-, hpl, -⟩ := t3 hps
  refine Met.ofW (cc := pm_by T) (maxL := pm_ml T) (ret := pm_re T) hpl rfl ?_
  intro p e s m args below meth c s₁ B hml hv
  obtain ⟨rfl, hsz, hP, hK, hD0, hN, hw⟩ := hv
  have hts := atoms_spec (ws := pm_wd T) B.pre
  have hown : s.vm.findClass (pm_nm T).cls = some m.cls := findClass_of_methodNamed B.named
  have hnm : meth.name = (pm_nm T).name := (name_of_methodNamed B.named B.method).1
  subst hsz
  have hD := hD0.self (sz := s.heap.size)
  have hl := lv_entry asA (n := pm_ml T) (by rw [pm_lg_len, pm_rs_sum has]; exact hsum)
  rw [lg_entry_eq]
  generalize (lg_sl asA ++ List.replicate (pm_ml T - (lg_sl asA).length) Slot.unset).toArray = ls at hl ⊢
  have hlocks := B.notSynchronized
  refine hf bS none d T 0 (lv_args 0 as) [] ph 0 0 v ph2 c2 n2 h hg D p e _ s m _ below meth c s.heap [] _ (va_A ws s.heap.size) s.heap ws ad ls (lv_args 0 asA) [] ⟨B.exec, B.bytes, hml, by rw [t1]; exact hown, fun q => by rw [hnm]; exact t2 q, fun w hw => hts w (List.mem_cons_of_mem _ hw), hN, hK⟩ (Nat.le_refl _) (Nat.le_refl _) (Nat.le_refl _) (Nat.le_refl _) hP hD va_S.rf (fun q h => Or.inr h) hw hl (pm_rl_args 0 has) trivial (fun x q => by cases q) ?_
  intro H1 locs1 ws1 ad2 ls1 pc1 i1 st1 stA1 hret hdec hst hw1 hP1 hD1 hS1
  cases i1
  case return_ =>
    replace hret : pm_rvd T st1 = some v := hret
    unfold pm_rvd at hret
    split at hret
    · rename_i hre
      cases hret
      obtain rfl := pm_rs_nil hst
      exact W.vret B.exec B.bytes (B.returns.trans hre) (fun t ht hW => ⟨⟨none, ad2, ws1, rfl, trivial, hw1.moved hW.alike, by rw [ht]; exact hP1, hD1⟩, hS1.F ht⟩) hS1.2.2 hdec
    · cases hret
  case ireturn =>
    replace hret : pm_rin T st1 = some v := hret
    unfold pm_rin at hret
    split at hret
    · rename_i x ty hre
      split at hret
      · rename_i hfit
        cases hret
        obtain ⟨r1, rfl, hr1⟩ := pm_rs_i hst
        obtain rfl := pm_rs_nil hr1
        exact W.zret B.exec B.bytes (B.returns.trans hre) (pm_fit_ok (bS := bS) (ad := ad) hfit rfl).1 (fun t ht hW => ⟨⟨some (.int x), ad2, ws1, rfl, rfl, hw1.moved hW.alike, by rw [ht]; exact hP1, hD1⟩, hS1.F ht⟩) hS1.2.2 hdec
      · cases hret
    · cases hret
  case areturn =>
    replace hret : pm_rar T st1 = some v := hret
    unfold pm_rar at hret
    split at hret
    · rename_i a cN hre
      cases hret
      obtain ⟨a', r1, ha, rfl, hr1⟩ := pm_rs_r hst
      obtain rfl := pm_rs_nil hr1
      exact W.aret B.exec B.bytes (B.returns.trans hre) (Or.inl ⟨_, rfl⟩) (Or.inr ⟨_, rfl⟩) (fun t ht hW => ⟨⟨some (.ref a'), ad2, ws1, rfl, ⟨a', ha, rfl⟩, hw1.moved hW.alike, by rw [ht]; exact hP1, hD1⟩, hS1.F ht⟩) hS1.2.2 hdec
    · rename_i cN hre
      cases hret
      obtain ⟨r1, rfl, hr1⟩ := pm_rs_n hst
      obtain rfl := pm_rs_nil hr1
      exact W.aret B.exec B.bytes (B.returns.trans hre) (Or.inl ⟨_, rfl⟩) (Or.inl rfl) (fun t ht hW => ⟨⟨some .null, ad2, ws1, rfl, rfl, hw1.moved hW.alike, by rw [ht]; exact hP1, hD1⟩, hS1.F ht⟩) hS1.2.2 hdec
    · cases hret
  all_goals exact nomatch (show (none : Option (Option Value)) = some v from hret)
end
section
/-! THE PURE MACHINE, 7: it is sound -/
theorem pm_PC_blind {bS : Nat} {D : va_G} {ws : va_W} {ad : List Nat} {ph : List va_E} {sz : Nat} {asA : List Value} : FrameBlind (va_Pc asA (pm_PC bS D ws ad ph sz)) := fun a U g mk q => by
  obtain ⟨q0, q1, qP, qK, qD, qN, qw⟩ := q
  exact ⟨q0, q1, qP, va_K.moved (u := U) (U := U.calling g mk a) (Vm.Alike.refl U.vm) qK, qD, pm_Nn.same (u := U) (U := U.calling g mk a) rfl qN, pm_rw.moved (u := U) (U := U.calling g mk a) (Vm.Alike.refl U.vm) qw⟩
theorem pm_PC_pre {bS : Nat} {D : va_G} {ws : va_W} {ad : List Nat} {ph : List va_E} {asA : List Value} {s : State} {H : Heap} {A : Nat → Prop} (hP : va_P D pm_cl ws H) (hK : va_K D pm_cl [] s) (hD : va_D A ws) (hN : pm_Nn s) (hw : pm_rw bS ad s ph ws) : ∀ U : State, U.heap = H → s.WarmedH U.vm → va_Pc asA (pm_PC bS D ws ad ph H.size) asA.toArray U :=
  fun U hU hW => ⟨rfl, by rw [hU], by rw [hU]; exact hP, va_K.moved hW.alike hK, hD.weaken (fun _ _ _ _ => trivial), pm_Nn.warm hW hN, hw.moved hW.alike⟩
theorem pm_goodIn {T : pm_M} (h : Cond.code (pm_nm T) (pm_by T) (pm_ml T) (pm_re T) ∈ pm_tb) : GoodIn pm_tb (pm_wd T) := by
  intro w hw
  rcases List.mem_cons.mp hw with rfl | hw
  · exact ⟨h, Or.inl rfl⟩
  · exact ⟨hw, good_of_word (List.mem_filter.mp hw).2⟩
theorem pm_nfw : nativeFrameWords "java/lang/System" "arraycopy" 5 = 7 := by decide +kernel
section PMSND
variable {p : Program} {l : Launch} {e : Env} {R : Room} {s : State} {m : MethodId} {args : Array Value} {below : List Frame} {meth : Method} {c : Code} {H : Heap} {locs : List Loc} {cells slots : Nat} {Q : State → Prop}
variable {cc : ByteArray} {pc nL : Nat} {ls : Array Slot} {bS : Nat} {ad : List Nat} {D : va_G} {A : Nat → Prop} {H0 : Heap} {ws : va_W} {ph : List va_E} {T : pm_M}
theorem pm_callk {mc ms : Nat} {st0 rest : List Value} {v : Option Value} {ph2 : List va_E} {a : Array Value} (hr : va_Run p l e R s m args below meth c H locs cells slots mc ms (F0 m pc ls st0) rest (pm_QC bS D ws ad H.size v ph2 a) (va_A ws H.size)) (hS : va_S A H0 H locs) (hA : ∀ q, va_A ws H.size q → A q)
    (kk : ∀ (vA : Option Value) (ad2 : List Nat) (ws2 : va_W) (H1 : Heap) (locs1 : List Loc), pm_rov bS (ad ++ ad2) v vA → pm_rw bS (ad ++ ad2) s ph2 ws2 → va_P D pm_cl ws2 H1 → va_D A ws2 → va_S A H0 H1 locs1 → W p l e R s m args below meth c H1 locs1 (cells + mc) (slots + ms) Q (F0 m (pc + 3) ls (vA.toList ++ rest))) : W p l e R s m args below meth c H locs cells slots Q (F0 m pc ls st0) := by
  intro T hT X
  obtain ⟨v', st₀, t, T', L, h0, X', hL, e1, e2, ⟨⟨vA, ad2, ws2, hv, h1, h2, h3, h4⟩, hz, hk⟩, st⟩ := hr T hT X
  cases hv
  rw [h0] at hz hk
  have hal : s.vm.Alike t.vm := by rw [← e2]; exact X'.warmed.alike
  obtain ⟨t2, a1, b1⟩ := kk v' ad2 ws2 T'.heap (locs ++ L) h1 (h2.moved hal.symm) (by rw [e1]; exact h3) (h4.weaken (fun _ _ _ z => hA _ z))
    ⟨Nat.le_trans hS.1 (by rw [e1]; exact hz), fun q h1 h2 => by rw [e1, hk q (Nat.lt_of_lt_of_le h1 hS.1) (fun z => h2 (hA q z))]; exact hS.2.1 q h1 h2, fun q hq => by
      rcases List.mem_append.mp hq with h | h
      · exact hS.2.2 q h
      · exact hA _ (hL q h)⟩ T' rfl X'
  exact ⟨t2, st t2 a1, b1⟩
theorem pm_nat_ok (hx : p.tables.exec = Jvm.exec) (hb : c.code = cc) (hml : c.maxLocals = ls.size) (hown : s.vm.findClass (pm_ow (pm_cn T)) = some m.cls) (hts : ∀ w ∈ pm_tb, w.before args s = true) (hfr : 1 ≤ R.frames) (hlo : 40 ≤ R.locals) (hce : cells ≤ R.cells) (hsl : slots ≤ R.slots)
    {i : Instr} {st st2 stA : List Value} (h : pm_nat T i st = some st2) (hd : decode cc pc = .ok (i, pm_len i)) (hs : pm_rs bS ad st stA)
    (kk : ∀ stA2 : List Value, pm_rs bS ad st2 stA2 → W p l e R s m args below meth c H locs cells slots Q (F0 m (pc + pm_len i) ls stA2)) : W p l e R s m args below meth c H locs cells slots Q (F0 m pc ls stA) := by
  cases i
  case invokestatic idx =>
    obtain ⟨⟨k, M, p1, p2, p3⟩, h1, h⟩ := Option.bind_eq_some_iff.mp h
    have hck := pm_mr_ok h1
    dsimp only at h
    unfold pm_mx at h
    split at h
    · rename_i y x r
      obtain ⟨r0, rfl, h0⟩ := pm_rs_i hs
      obtain ⟨r1, rfl, hr1⟩ := pm_rs_i h0
      split at h
      · rename_i hsum
        have hs1 : (r1.map fun v => v.category).sum ≤ 8 := by
          have := pm_rs_sum hr1
          unfold pm_sum at this hsum
          omega
        split at h
        · rename_i hk
          cases h
          subst hk
          replace hck : (pm_at p1 (.methodLink (pm_ow (pm_cn T)) idx Lib.Math.max.name) && pm_at p2 (.static Lib.Math.max.name) && pm_at p3 (.code Lib.Math.max.name Lib.Math.max.code 2 (some .int))) = true := hck
          simp only [Bool.and_eq_true] at hck
          exact va_mmax hx hb hml hown (hts _ (pm_at_good hck.1.1 rfl)) (hts _ (pm_at_good hck.1.2 rfl)) (hts _ (pm_at_good pm_ini_ok.1 rfl)) (hts _ (pm_at_good hck.2 rfl)) hfr (by omega) hce hsl hd (kk _ ⟨rfl, hr1⟩)
        · split at h
          · rename_i hk
            cases h
            subst hk
            replace hck : (pm_at p1 (.methodLink (pm_ow (pm_cn T)) idx Lib.Math.min.name) && pm_at p2 (.static Lib.Math.min.name) && pm_at p3 (.code Lib.Math.min.name Lib.Math.min.code 2 (some .int))) = true := hck
            simp only [Bool.and_eq_true] at hck
            exact va_mmin hx hb hml hown (hts _ (pm_at_good hck.1.1 rfl)) (hts _ (pm_at_good hck.1.2 rfl)) (hts _ (pm_at_good pm_ini_ok.1 rfl)) (hts _ (pm_at_good hck.2 rfl)) hfr (by omega) hce hsl hd (kk _ ⟨rfl, hr1⟩)
          · cases h
      · cases h
    · cases h
  case invokespecial idx =>
    obtain ⟨⟨k, M, p1, p2, p3⟩, h1, h⟩ := Option.bind_eq_some_iff.mp h
    have hck := pm_mr_ok h1
    dsimp only at h
    unfold pm_oi at h
    split at h
    · rename_i a r
      obtain ⟨a', r0, ha, rfl, h0⟩ := pm_rs_r hs
      split at h
      · rename_i hk
        obtain ⟨rfl, hsum⟩ := hk
        cases h
        have hs1 : (r0.map fun v => v.category).sum ≤ 8 := by
          have := pm_rs_sum h0
          unfold pm_sum at this hsum
          omega
        replace hck : (pm_at p1 (.methodLink (pm_ow (pm_cn T)) idx Lib.objectInit) && pm_at p2 (.instanceMethod Lib.objectInit) && pm_at p3 (.code Lib.objectInit ⟨#[0xb1]⟩ 1 none)) = true := hck
        simp only [Bool.and_eq_true] at hck
        exact W.objInit hx hb hown (hts _ (pm_at_good hck.1.1 rfl)) (hts _ (pm_at_good hck.1.2 rfl)) (hts _ (pm_at_good hck.2 rfl)) (g := F0 m pc ls (.ref a' :: r0)) rfl hml.symm rfl hd hfr (by show 2 * 0 + _ + 12 ≤ _; omega) (W.eq (g2 := F0 m (pc + 3) ls r0) rfl (kk _ h0))
      · cases h
    · cases h
  all_goals exact nomatch (show (none : Option (List Value)) = some st2 from h)
theorem pm_cpw_ok (hx : p.tables.exec = Jvm.exec) (hb : c.code = cc) (hml : c.maxLocals = ls.size) (hown : s.vm.findClass (pm_ow (pm_cn T)) = some m.cls) (hts : ∀ w ∈ pm_tb, w.before args s = true) (hfr : 1 ≤ R.frames) (hlo : 40 ≤ R.locals) (hK : va_K D pm_cl [] s) (hP : va_P D pm_cl ws H) (hD : va_D A ws) (hS : va_S A H0 H locs) (hw : pm_rw bS ad s ph ws)
    {i : Instr} {st st2 stA : List Value} {k2 : Nat} {e2 : va_E} (h : pm_cpw T i st ph = some (st2, k2, e2)) (hd : decode cc pc = .ok (i, pm_len i)) (hs : pm_rs bS ad st stA)
    (kk : ∀ (H1 : Heap) (locs1 : List Loc) (ws1 : va_W) (stA2 : List Value), va_P D pm_cl ws1 H1 → va_D A ws1 → va_S A H0 H1 locs1 → pm_rw bS ad s (ph.set k2 e2) ws1 → pm_rs bS ad st2 stA2 → W p l e R s m args below meth c H1 locs1 cells slots Q (F0 m (pc + pm_len i) ls stA2)) : W p l e R s m args below meth c H locs cells slots Q (F0 m pc ls stA) := by
  cases i
  case invokestatic idx =>
    obtain ⟨⟨k, M, p1, p2, p3⟩, h1, h⟩ := Option.bind_eq_some_iff.mp h
    have hck := pm_mr_ok h1
    dsimp only at h
    unfold pm_cp5 at h
    split at h
    · rename_i n dp a sp b r hq9
      obtain ⟨⟨n0, f0⟩, h2, h8⟩ := Option.bind_eq_some_iff.mp h
      obtain ⟨⟨n1, f1⟩, h3, h9⟩ := Option.bind_eq_some_iff.mp h8
      clear h h8
      dsimp only at h9
      split at h9
      · rename_i hc
        obtain ⟨hk7, c1, c2, c3, c4, c5, hsum⟩ := hc
        cases h9
        subst hk7
        obtain ⟨r0, rfl, s0⟩ := pm_rs_i hs
        obtain ⟨r1, rfl, s1⟩ := pm_rs_i s0
        obtain ⟨a', r2, ha, rfl, s2⟩ := pm_rs_r s1
        obtain ⟨r3, rfl, s3⟩ := pm_rs_i s2
        obtain ⟨b', r4, hb4, rfl, s4⟩ := pm_rs_r s3
        have hs1 : (r4.map fun v => v.category).sum ≤ 8 := by
          have := pm_rs_sum s4
          unfold pm_sum at this hsum
          omega
        obtain ⟨e1', he1, hc1⟩ := hw.at (pm_ia_ok h2) hb4
        obtain ⟨cB, rfl, qb1, qb2⟩ := hc1
        obtain ⟨e2', he2, hc2⟩ := hw.at (pm_ia_ok h3) ha
        obtain ⟨cA, rfl, qa1, qa2⟩ := hc2
        replace hck : (pm_at p1 (.methodLink (pm_ow (pm_cn T)) idx arraycopyName) && pm_at p2 (.static arraycopyName) && pm_at p3 (.native arraycopyName)) = true := hck
        simp only [Bool.and_eq_true] at hck
        exact va_copyi (ty := .int) hx hb hml hown (hts _ (pm_at_good hck.1.1 rfl)) (hts _ (pm_at_good hck.2 rfl)) (hts _ (pm_at_good hck.1.2 rfl)) (hts _ (pm_at_good pm_ini_ok.2.1 rfl)) (pm_K2 hK qb1 qb2 qa1 qa2) hP hD hS b k2 0 1 he1 he2 rfl rfl rfl c1 c2 c3 c4 c5 (fun _ _ => rfl) hfr (by rw [pm_nfw]; omega) hd (fun H1 locs1 hP1 hD1 hS1 => kk H1 locs1 _ _ hP1 hD1 hS1 (hw.set he2 ⟨cA, rfl, qa1, qa2⟩) s4)
      · cases h9
    · cases h
  all_goals exact nomatch (show (none : Option (List Value × Nat × va_E)) = some (st2, k2, e2) from h)
end PMSND
end
section
/-! THE PURE MACHINE, 8: soundness by induction on the steps -/
theorem pm_rov_list {bS : Nat} {ad : List Nat} {v w : Option Value} (h : pm_rov bS ad v w) : pm_rs bS ad v.toList w.toList := by
  cases v with
  | none => cases w with
    | none => trivial
    | some w => exact h.elim
  | some v => cases w with
    | none => exact h.elim
    | some w => exact ⟨h, trivial⟩
theorem pm_snd (l : Launch) : ∀ f, pm_Snd l f
  | 0 => by
    intro bS scr d T pc lv st ph nc ns v ph2 nc2 ns2 h
    cases h
  | f + 1 => by
    have ih := pm_snd l f
    intro bS scr d T pc lv st ph nc ns v ph2 nc2 ns2 h hg D p e R s m args below meth c H locs Q A H0 ws ad ls lvA stA C hfr hlo hce hsl hP hD hS hA hw hl hv hs hX hret
    obtain ⟨hx, hb, hml, hown, hini, hts, hN, hK⟩ := id C
    unfold pm_run at h
    split at h
    · cases h
    rename_i w hw0
    have hmem := List.all_eq_true.mp hg _ (pm_as_mem hw0)
    simp only [Bool.and_eq_true, Bool.or_eq_true, decide_eq_true_eq] at hmem
    obtain ⟨hdec, hlen⟩ := hmem
    obtain ⟨i, len⟩ := w
    dsimp only at hdec hlen h
    have hd : pm_isw i = false → decode (pm_by T) pc = .ok (i, pm_len i) := fun q => by
      rcases hlen with z | z
      · rw [q] at z; cases z
      · rw [← z]; exact hdec
    have hnone : ∀ {P : Prop}, (pm_isw i = true → P) → (pm_isw i = false → P) → P := fun h1 h2 => by
      cases hq : pm_isw i with
      | true => exact h1 hq
      | false => exact h2 hq
    split at h
    · rename_i x hsim
      obtain ⟨lv2, st2⟩ := x
      refine hnone (fun q => by rw [(pm_isw_none q (pm_ml T) lv st T scr ph).1] at hsim; cases hsim) (fun q => ?_)
      exact pm_sim_ok hx hb hsim (hd q) hl hv hs (fun ls2 lvA2 stA2 h1 h2 h3 => ih _ _ _ _ _ _ _ _ _ _ _ _ _ _ h hg D p e R s m args below meth c H locs Q A H0 ws ad ls2 lvA2 stA2 C hfr hlo hce hsl hP hD hS hA hw h1 h2 h3 hX hret)
    split at h
    · rename_i x hjmp
      obtain ⟨pc2, st2⟩ := x
      exact pm_jmp_ok hx hb hjmp hdec hlen hs (fun stA2 h3 => ih _ _ _ _ _ _ _ _ _ _ _ _ _ _ h hg D p e R s m args below meth c H locs Q A H0 ws ad ls lvA stA2 C hfr hlo hce hsl hP hD hS hA hw hl hv h3 hX hret)
    split at h
    · rename_i x hrd
      refine hnone (fun q => by rw [(pm_isw_none q (pm_ml T) lv st T scr ph).2.1] at hrd; cases hrd) (fun q => ?_)
      exact pm_rd_ok hx hb hown hts hN hK hP hS hw hX hrd (hd q) hs (fun stA2 h3 => ih _ _ _ _ _ _ _ _ _ _ _ _ _ _ h hg D p e R s m args below meth c H locs Q A H0 ws ad ls lvA stA2 C hfr hlo hce hsl hP hD hS hA hw hl hv h3 hX hret)
    split at h
    · rename_i x hwr
      obtain ⟨st2, k2, e2⟩ := x
      refine hnone (fun q => by rw [(pm_isw_none q (pm_ml T) lv st T scr ph).2.2.1] at hwr; cases hwr) (fun q => ?_)
      exact pm_wr_ok hx hb hown hini hts hN hK hP hD hS hw hwr (hd q) hs (fun H1 locs1 ws1 stA2 hP1 hD1 hS1 hw1 hs1 => ih _ _ _ _ _ _ _ _ _ _ _ _ _ _ h hg D p e R s m args below meth c H1 locs1 Q A H0 ws1 ad ls lvA stA2 C hfr hlo hce hsl hP1 hD1 hS1 hA hw1 hl hv hs1 hX hret)
    split at h
    · rename_i x hnw
      obtain ⟨st2, e2, n2⟩ := x
      refine hnone (fun q => by rw [(pm_isw_none q (pm_ml T) lv st T scr ph).2.2.2.1] at hnw; cases hnw) (fun q => ?_)
      have hmono := pm_run_mono f h
      dsimp only at hmono
      exact pm_nw_ok hx hb hown hts hN hK hP hD hS hA hw hnw (hd q) hs (by omega) (by omega) (fun q H1 ws1 stA2 hP1 hD1 hS1 hw1 hs1 => ih _ _ _ _ _ _ _ _ _ _ _ _ _ _ h hg D p e R s m args below meth c H1 locs Q A H0 ws1 (ad ++ [q]) ls lvA stA2 C hfr hlo hce hsl hP1 hD1 hS1 hA hw1 hl hv.mono hs1 hX (fun H2 locs2 ws2 ad2 ls2 pc2 i2 st2 stA2 a1 a2 a3 a4 a5 a6 a7 => hret H2 locs2 ws2 ([q] ++ ad2) ls2 pc2 i2 st2 stA2 a1 a2 (by rw [← List.append_assoc]; exact a3) (by rw [← List.append_assoc]; exact a4) a5 a6 a7))
    split at h
    · rename_i x hnt
      refine hnone (fun q => by rw [(pm_isw_none q (pm_ml T) lv st T scr ph).2.2.2.2.1] at hnt; cases hnt) (fun q => ?_)
      have hmono := pm_run_mono f h
      exact pm_nat_ok hx hb (hml.trans hl.1.symm) hown hts (by omega) (by omega) (by omega) (by omega) hnt (hd q) hs (fun stA2 h3 => ih _ _ _ _ _ _ _ _ _ _ _ _ _ _ h hg D p e R s m args below meth c H locs Q A H0 ws ad ls lvA stA2 C hfr hlo hce hsl hP hD hS hA hw hl hv h3 hX hret)
    split at h
    · rename_i x hcp
      obtain ⟨st2, k2, e2⟩ := x
      refine hnone (fun q => by rw [(pm_isw_none q (pm_ml T) lv st T scr ph).2.2.2.2.2.1] at hcp; cases hcp) (fun q => ?_)
      exact pm_cpw_ok hx hb (hml.trans hl.1.symm) hown hts (by omega) (by omega) hK hP hD hS hw hcp (hd q) hs (fun H1 locs1 ws1 stA2 hP1 hD1 hS1 hw1 hs1 => ih _ _ _ _ _ _ _ _ _ _ _ _ _ _ h hg D p e R s m args below meth c H1 locs1 Q A H0 ws1 ad ls lvA stA2 C hfr hlo hce hsl hP1 hD1 hS1 hA hw1 hl hv hs1 hX hret)
    split at h
    · rename_i v9 hrt
      refine hnone (fun q => by rw [(pm_isw_none q (pm_ml T) lv st T scr ph).2.2.2.2.2.2.1] at hrt; cases hrt) (fun q => ?_)
      cases h
      exact hret H locs ws [] ls pc i st stA hrt (hd q) (by rw [List.append_nil]; exact hs) (by rw [List.append_nil]; exact hw) hP hD hS
    cases d with
    | zero => cases h
    | succ d2 =>
      dsimp only at h
      split at h
      · cases h
      rename_i x hcal
      obtain ⟨T2, as, rest⟩ := x
      split at h
      · cases h
      rename_i y hrun
      obtain ⟨v2, ph3, c2, n2⟩ := y
      dsimp only at h hrun
      have hmono := pm_run_mono f h
      have hAf : ∀ q, va_A ws H.size q → A q := fun q z => z.elim (fun ⟨k, e9, h9⟩ => hD.2 k _ h9) (fun z => hA q (Nat.le_trans hS.1 z))
      have cont : ∀ (vA : Option Value) (ad2 : List Nat) (ws2 : va_W) (H1 : Heap) (locs1 : List Loc), pm_rov bS (ad ++ ad2) v2 vA → pm_rw bS (ad ++ ad2) s ph3 ws2 → va_P D pm_cl ws2 H1 → va_D A ws2 → va_S A H0 H1 locs1 → ∀ restA : List Value, pm_rs bS ad rest restA → W p l e R s m args below meth c H1 locs1 (nc + c2) (ns + n2) Q (F0 m (pc + pm_len i) ls (vA.toList ++ restA)) :=
        fun vA ad2 ws2 H1 locs1 a1 a2 a3 a4 a5 restA a6 => ih _ _ _ _ _ _ _ _ _ _ _ _ _ _ h hg D p e R s m args below meth c H1 locs1 Q A H0 ws2 (ad ++ ad2) ls lvA (vA.toList ++ restA) C hfr hlo hce hsl a3 a4 a5 hA a2 hl hv.mono (pm_rs_app (pm_rov_list a1) a6.mono) hX (fun H2 locs2 ws3 ad3 ls2 pc2 i2 st2 stA2 b1 b2 b3 b4 b5 b6 b7 => hret H2 locs2 ws3 (ad2 ++ ad3) ls2 pc2 i2 st2 stA2 b1 b2 (by rw [← List.append_assoc]; exact b3) (by rw [← List.append_assoc]; exact b4) b5 b6 b7)
      cases i
      case invokevirtual idx =>
        obtain ⟨⟨k, M, p1, p2, p3⟩, m1, hcal⟩ := Option.bind_eq_some_iff.mp hcal
        obtain ⟨T3, m2, hcal⟩ := Option.bind_eq_some_iff.mp hcal
        obtain ⟨⟨b, rs⟩, m3, hcal⟩ := Option.bind_eq_some_iff.mp hcal
        obtain ⟨fs, m4, hcal⟩ := Option.bind_eq_some_iff.mp hcal
        dsimp only at hcal m2 m4
        split at hcal
        · rename_i hc
          cases hcal
          obtain ⟨rfl, hsum, hsum2, hlen2, hps⟩ := hc
          have hT2 : T2 ∈ pm_tab := List.mem_of_getElem? m2
          have hdk := List.all_eq_true.mp pm_tab_gd _ hT2
          have htk := List.all_eq_true.mp pm_tab_gt _ hT2
          obtain ⟨-, -, t3⟩ := pm_tck_use htk
          have u1 := pm_tab_gk _ hT2 hps
          obtain ⟨u2, -, u4, u5, u6, u7⟩ := t3 hps
          have hck := pm_mr_ok m1
          unfold pm_mck at hck
          dsimp only at hck
          rw [m2] at hck
          dsimp only at hck
          simp only [Bool.and_eq_true, decide_eq_true_eq] at hck
          obtain ⟨⟨⟨c1, c3⟩, c4⟩, c5⟩ := hck
          have hst : st = st.take (pm_na T2) ++ (.ref b :: rest) := by rw [← pm_r1_ok m3]; exact (List.take_append_drop _ _).symm
          rw [hst] at hs
          obtain ⟨aA, bA, rfl, hsa, hsb⟩ := pm_rs_split hs
          obtain ⟨b', restA, hb', rfl, hrest⟩ := pm_rs_r hsb
          have has : pm_rs bS ad (.ref b :: (st.take (pm_na T2)).reverse) (.ref b' :: aA.reverse) := ⟨⟨b', hb', rfl⟩, pm_rs_rev hsa⟩
          have hM := pm_met ih hrun hdk htk hps hsum2 (D := D) (ws := ws) (ad := ad) (sz := H.size) has
          obtain ⟨e', he, hc9⟩ := hw.at (pm_ob_ok m4) hb'
          obtain ⟨fs', rfl, -⟩ := hc9
          obtain ⟨r9, hr9, -⟩ := hP b _ he
          have hcls : r9.1 = (pm_nm T2).cls := by
            rw [← c5, List.getD_eq_getElem?_getD, hr9]
            rfl
          have hrecv := va_recv hK hP hr9 he
          rw [hcls] at hrecv
          have hsumA : (restA.map fun v => v.category).sum ≤ 8 := by
            have := pm_rs_sum hrest
            unfold pm_sum at this hsum
            omega
          exact pm_callk (va_runV (As := aA.reverse) (rest := restA) (C := (pm_nm T2).cls) (b := b') (Ts := pm_tb) (own := pm_ow (pm_cn T)) ⟨hx, hb, hml, hown, hts⟩ hM ⟨callB_of (pm_na T2) hts (pm_goodIn u1) rfl rfl rfl (hts _ u2) (hts _ (pm_at_good c1 rfl)) ⟨u4, u5, u6⟩ ⟨hfr, by show 8 + (pm_ml T2 + 11) + 40 * (d2 + 1) ≤ _; omega⟩, hts _ (pm_at_good c3 rfl), hts _ (pm_at_good c4 rfl)⟩ ⟨pm_PC_blind, hrecv, pm_PC_pre hP hK hD hN hw⟩ rfl (by rw [List.length_reverse, pm_rs_len hsa]; exact hlen2) hl.1 (by rw [List.reverse_reverse]) (lv_room hsumA) (hd rfl) ⟨by omega, by omega⟩) hS hAf (fun vA ad2 ws2 H1 locs1 a1 a2 a3 a4 a5 => cont vA ad2 ws2 H1 locs1 a1 a2 a3 a4 a5 restA hrest)
        · cases hcal
      case invokespecial idx =>
        obtain ⟨⟨k, M, p1, p2, p3⟩, m1, hcal⟩ := Option.bind_eq_some_iff.mp hcal
        obtain ⟨T3, m2, hcal⟩ := Option.bind_eq_some_iff.mp hcal
        obtain ⟨⟨b, rs⟩, m3, hcal⟩ := Option.bind_eq_some_iff.mp hcal
        dsimp only at hcal m2
        split at hcal
        · rename_i hc
          cases hcal
          obtain ⟨hk, hsum, hsum2, hlen2, hps⟩ := hc
          have hT2 : T2 ∈ pm_tab := List.mem_of_getElem? m2
          have hdk := List.all_eq_true.mp pm_tab_gd _ hT2
          have htk := List.all_eq_true.mp pm_tab_gt _ hT2
          obtain ⟨-, -, t3⟩ := pm_tck_use htk
          have u1 := pm_tab_gk _ hT2 hps
          obtain ⟨u2, -, u4, u5, u6, u7⟩ := t3 hps
          have hck := pm_mr_ok m1
          have hst : st = st.take (pm_na T2) ++ (.ref b :: rest) := by rw [← pm_r1_ok m3]; exact (List.take_append_drop _ _).symm
          rw [hst] at hs
          obtain ⟨aA, bA, rfl, hsa, hsb⟩ := pm_rs_split hs
          obtain ⟨b', restA, hb', rfl, hrest⟩ := pm_rs_r hsb
          have has : pm_rs bS ad (.ref b :: (st.take (pm_na T2)).reverse) (.ref b' :: aA.reverse) := ⟨⟨b', hb', rfl⟩, pm_rs_rev hsa⟩
          have hM := pm_met ih hrun hdk htk hps hsum2 (D := D) (ws := ws) (ad := ad) (sz := H.size) has
          have hsumA : (restA.map fun v => v.category).sum ≤ 8 := by
            have := pm_rs_sum hrest
            unfold pm_sum at this hsum
            omega
          rcases hk with rfl | rfl
          · unfold pm_mck at hck
            dsimp only at hck
            rw [m2] at hck
            dsimp only at hck
            simp only [Bool.and_eq_true, decide_eq_true_eq] at hck
            obtain ⟨⟨⟨c1, c3⟩, c4⟩, c5⟩ := hck
            exact pm_callk (va_runI (As := aA.reverse) (rest := restA) (b := b') (Ts := pm_tb) (own := pm_ow (pm_cn T)) ⟨hx, hb, hml, hown, hts⟩ hM ⟨callB_of (ws' := pm_tb) (pm_na T2) hts (pm_goodIn u1) (by rw [← c5]; rfl) rfl rfl (hts _ u2) (hts _ (pm_at_good c1 rfl)) ⟨u4, u5, u6⟩ ⟨hfr, by show 8 + (pm_ml T2 + 11) + 40 * (d2 + 1) ≤ _; omega⟩, c4, hts _ (pm_at_good c3 rfl)⟩ ⟨pm_PC_blind, pm_PC_pre hP hK hD hN hw⟩ rfl (by rw [List.length_reverse, pm_rs_len hsa]; exact hlen2) hl.1 (by rw [List.reverse_reverse]) (lv_room hsumA) (hd rfl) ⟨by omega, by omega⟩) hS hAf (fun vA ad2 ws2 H1 locs1 a1 a2 a3 a4 a5 => cont vA ad2 ws2 H1 locs1 a1 a2 a3 a4 a5 restA hrest)
          · unfold pm_mck at hck
            dsimp only at hck
            rw [m2] at hck
            dsimp only at hck
            simp only [Bool.and_eq_true, decide_eq_true_eq] at hck
            obtain ⟨⟨⟨c1, c3⟩, c4⟩, c5⟩ := hck
            exact pm_callk (va_runIN (host := "LambdaShelf") (As := aA.reverse) (rest := restA) (b := b') (Ts := pm_tb) (own := pm_ow (pm_cn T)) ⟨hx, hb, hml, hown, hts⟩ hM ⟨va_cnB (ws' := pm_tb) (pm_na T2) hts (pm_goodIn u1) (by rw [← c5]; rfl) rfl rfl (hN.1 _ (pm_at_mem c1) rfl) (hts _ u2) ⟨u4, u5, u6⟩ ⟨hfr, by show 8 + (pm_ml T2 + 11) + 40 * (d2 + 1) ≤ _; omega⟩, c4, hts _ (pm_at_good c3 rfl)⟩ ⟨pm_PC_blind, pm_PC_pre hP hK hD hN hw⟩ rfl (by rw [List.length_reverse, pm_rs_len hsa]; exact hlen2) hl.1 (by rw [List.reverse_reverse]) (lv_room hsumA) (hd rfl) ⟨by omega, by omega⟩) hS hAf (fun vA ad2 ws2 H1 locs1 a1 a2 a3 a4 a5 => cont vA ad2 ws2 H1 locs1 a1 a2 a3 a4 a5 restA hrest)
        · cases hcal
      case invokestatic idx =>
        obtain ⟨⟨k, M, p1, p2, p3⟩, m1, hcal⟩ := Option.bind_eq_some_iff.mp hcal
        obtain ⟨T3, m2, hcal⟩ := Option.bind_eq_some_iff.mp hcal
        dsimp only at hcal m2
        split at hcal
        · rename_i hc
          cases hcal
          obtain ⟨rfl, hsum, hsum2, hlen2, hps⟩ := hc
          have hT2 : T2 ∈ pm_tab := List.mem_of_getElem? m2
          have hdk := List.all_eq_true.mp pm_tab_gd _ hT2
          have htk := List.all_eq_true.mp pm_tab_gt _ hT2
          obtain ⟨-, -, t3⟩ := pm_tck_use htk
          have u1 := pm_tab_gk _ hT2 hps
          obtain ⟨u2, -, u4, u5, u6, u7⟩ := t3 hps
          have hck := pm_mr_ok m1
          unfold pm_mck at hck
          dsimp only at hck
          rw [m2] at hck
          dsimp only at hck
          simp only [Bool.and_eq_true, decide_eq_true_eq] at hck
          obtain ⟨c1, c3⟩ := hck
          have hst : st = st.take (pm_na T2) ++ st.drop (pm_na T2) := (List.take_append_drop _ _).symm
          rw [hst] at hs
          obtain ⟨aA, restA, rfl, hsa, hrest⟩ := pm_rs_split hs
          have has := pm_rs_rev hsa
          have hM := pm_met ih hrun hdk htk hps hsum2 (D := D) (ws := ws) (ad := ad) (sz := H.size) has
          have hsumA : (restA.map fun v => v.category).sum ≤ 8 := by
            have := pm_rs_sum hrest
            unfold pm_sum at this hsum
            omega
          exact pm_callk (va_runS (As := aA.reverse) (rest := restA) (Ts := pm_tb) (own := pm_ow (pm_cn T)) ⟨hx, hb, hml, hown, hts⟩ hM ⟨callB_of (pm_na T2) hts (pm_goodIn u1) rfl rfl rfl (hts _ u2) (hts _ (pm_at_good c1 rfl)) ⟨u4, u5, u6⟩ ⟨hfr, by show 8 + (pm_ml T2 + 11) + 40 * (d2 + 1) ≤ _; omega⟩, hts _ (pm_at_good c3 rfl)⟩ ⟨pm_PC_blind, pm_PC_pre hP hK hD hN hw⟩ rfl (by rw [List.length_reverse, pm_rs_len hsa]; exact hlen2) hl.1 (by rw [List.reverse_reverse]) (lv_room hsumA) (hd rfl) ⟨by omega, by omega⟩) hS hAf (fun vA ad2 ws2 H1 locs1 a1 a2 a3 a4 a5 => cont vA ad2 ws2 H1 locs1 a1 a2 a3 a4 a5 restA hrest)
        · cases hcal
      all_goals exact nomatch (show (none : Option (pm_M × List Value × List Value)) = some (T2, as, rest) from hcal)
end
section
/-! THE PURE MACHINE, 9: what a run comes to, step by step: pm_E S Q: from S the method comes to its end, with Q -/
theorem pm_run_step {f g : Nat} (ih : ∀ {scr : Option (Nat × (Nat → Int32))} {d : Nat} {T : pm_M} {pc : Nat} {lv : pm_L} {st : List Value} {ph : List va_E} {nc ns : Nat} {r : Option Value × List va_E × Nat × Nat}, pm_run f scr d T pc lv st ph nc ns = some r → pm_run g scr d T pc lv st ph nc ns = some r)
    {scr : Option (Nat × (Nat → Int32))} {d : Nat} {T : pm_M} {pc : Nat} {lv : pm_L} {st : List Value} {ph : List va_E} {nc ns : Nat} {r : Option Value × List va_E × Nat × Nat} (h : pm_run (f + 1) scr d T pc lv st ph nc ns = some r) : pm_run (g + 1) scr d T pc lv st ph nc ns = some r := by
  unfold pm_run at h ⊢
  cases hw : pm_as (pm_cd T) pc with
  | none => rw [hw] at h; cases h
  | some w =>
    rw [hw] at h
    dsimp only at h ⊢
    cases h1 : pm_sim (pm_ml T) w.1 lv st with
    | some x => rw [h1] at h; exact ih h
    | none =>
    rw [h1] at h
    dsimp only at h ⊢
    cases h2 : pm_jmp w.1 pc st with
    | some x => rw [h2] at h; exact ih h
    | none =>
    rw [h2] at h
    dsimp only at h ⊢
    cases h3 : pm_rd T scr w.1 st ph with
    | some x => rw [h3] at h; exact ih h
    | none =>
    rw [h3] at h
    dsimp only at h ⊢
    cases h4 : pm_wr T w.1 st ph with
    | some x => rw [h4] at h; exact ih h
    | none =>
    rw [h4] at h
    dsimp only at h ⊢
    cases h5 : pm_nw T w.1 st with
    | some x => rw [h5] at h; exact ih h
    | none =>
    rw [h5] at h
    dsimp only at h ⊢
    cases h6 : pm_nat T w.1 st with
    | some x => rw [h6] at h; exact ih h
    | none =>
    rw [h6] at h
    dsimp only at h ⊢
    cases h7 : pm_cpw T w.1 st ph with
    | some x => rw [h7] at h; exact ih h
    | none =>
    rw [h7] at h
    dsimp only at h ⊢
    cases h8 : pm_ret T w.1 st with
    | some x => rw [h8] at h; exact h
    | none =>
    rw [h8] at h
    dsimp only at h ⊢
    cases d with
    | zero => cases h
    | succ d2 =>
    dsimp only at h ⊢
    cases h9 : pm_cal T w.1 st ph with
    | none => rw [h9] at h; cases h
    | some x =>
    rw [h9] at h
    dsimp only at h ⊢
    cases hy : pm_run f none d2 x.1 0 (lv_args 0 x.2.1) [] ph 0 0 with
    | none => rw [hy] at h; cases h
    | some y =>
    rw [hy] at h
    rw [ih hy]
    exact ih h
theorem pm_run_more : ∀ (f : Nat) {scr : Option (Nat × (Nat → Int32))} {d : Nat} {T : pm_M} {pc : Nat} {lv : pm_L} {st : List Value} {ph : List va_E} {nc ns : Nat} {r : Option Value × List va_E × Nat × Nat}, pm_run f scr d T pc lv st ph nc ns = some r → pm_run (f + 1) scr d T pc lv st ph nc ns = some r
  | 0, _, _, _, _, _, _, _, _, _, _, h => by cases h
  | f + 1, _, _, _, _, _, _, _, _, _, _, h => pm_run_step (fun h => pm_run_more f h) h
theorem pm_run_le {f g : Nat} (hg : f ≤ g) {scr : Option (Nat × (Nat → Int32))} {d : Nat} {T : pm_M} {pc : Nat} {lv : pm_L} {st : List Value} {ph : List va_E} {nc ns : Nat} {r : Option Value × List va_E × Nat × Nat} (h : pm_run f scr d T pc lv st ph nc ns = some r) : pm_run g scr d T pc lv st ph nc ns = some r := by
  induction hg with
  | refl => exact h
  | step _ ih => exact pm_run_more _ ih
def pm_E (scr : Option (Nat × (Nat → Int32))) (d : Nat) (T : pm_M) (pc : Nat) (lv : pm_L) (st : List Value) (ph : List va_E) (nc ns : Nat) (Q : Option Value → List va_E → Nat → Nat → Prop) : Prop := ∃ (f : Nat) (v : Option Value) (ph2 : List va_E) (nc2 ns2 : Nat), pm_run f scr d T pc lv st ph nc ns = some (v, ph2, nc2, ns2) ∧ Q v ph2 nc2 ns2
section PMEV
variable {scr : Option (Nat × (Nat → Int32))} {d : Nat} {T : pm_M} {pc : Nat} {lv lv2 : pm_L} {st st2 : List Value} {ph : List va_E} {nc ns : Nat} {Q : Option Value → List va_E → Nat → Nat → Prop} {i : Instr} {len : Nat}
theorem pm_e_sim (h0 : pm_as (pm_cd T) pc = some (i, len)) (h1 : pm_sim (pm_ml T) i lv st = some (lv2, st2)) (k : pm_E scr d T (pc + pm_len i) lv2 st2 ph nc ns Q) : pm_E scr d T pc lv st ph nc ns Q := by
  obtain ⟨f, v, ph2, nc2, ns2, h, hq⟩ := k
  refine ⟨f + 1, v, ph2, nc2, ns2, ?_, hq⟩
  unfold pm_run
  simp only [h0, h1]
  exact h
theorem pm_e_jmp {pc2 : Nat} (h0 : pm_as (pm_cd T) pc = some (i, len)) (h1 : pm_sim (pm_ml T) i lv st = none) (h2 : pm_jmp i pc st = some (pc2, st2)) (k : pm_E scr d T pc2 lv st2 ph nc ns Q) : pm_E scr d T pc lv st ph nc ns Q := by
  obtain ⟨f, v, ph2, nc2, ns2, h, hq⟩ := k
  refine ⟨f + 1, v, ph2, nc2, ns2, ?_, hq⟩
  unfold pm_run
  simp only [h0, h1, h2]
  exact h
theorem pm_e_goto {off : Int} {t : Nat} (h0 : pm_as (pm_cd T) pc = some (.goto off, len)) (ht : pm_tgt pc off = some t) (k : pm_E scr d T t lv st ph nc ns Q) : pm_E scr d T pc lv st ph nc ns Q :=
  pm_e_jmp h0 rfl (by show pm_jto pc off st = _; unfold pm_jto; rw [ht]) k
theorem pm_e_ift {cn : Jvm.ClassFile.Cond} {off : Int} {t : Nat} {x : Int32} (h0 : pm_as (pm_cd T) pc = some (.ifCond cn off, len)) (ht : pm_tgt pc off = some t) (hc : pm_cz cn x 0 = true) (k : pm_E scr d T t lv st ph nc ns Q) : pm_E scr d T pc lv (.int x :: st) ph nc ns Q :=
  pm_e_jmp h0 rfl (by show pm_jc (pm_cz cn x 0) pc off st = _; unfold pm_jc; rw [ht, hc]; rfl) k
theorem pm_e_iff {cn : Jvm.ClassFile.Cond} {off : Int} {t : Nat} {x : Int32} (h0 : pm_as (pm_cd T) pc = some (.ifCond cn off, len)) (ht : pm_tgt pc off = some t) (hc : pm_cz cn x 0 = false) (k : pm_E scr d T (pc + 3) lv st ph nc ns Q) : pm_E scr d T pc lv (.int x :: st) ph nc ns Q :=
  pm_e_jmp h0 rfl (by show pm_jc (pm_cz cn x 0) pc off st = _; unfold pm_jc; rw [ht, hc]; rfl) k
theorem pm_e_if {cn : Jvm.ClassFile.Cond} {off : Int} {t : Nat} {x : Int32} (h0 : pm_as (pm_cd T) pc = some (.ifCond cn off, len)) (ht : pm_tgt pc off = some t) (k1 : pm_cz cn x 0 = true → pm_E scr d T t lv st ph nc ns Q) (k2 : pm_cz cn x 0 = false → pm_E scr d T (pc + 3) lv st ph nc ns Q) : pm_E scr d T pc lv (.int x :: st) ph nc ns Q := by
  cases hc : pm_cz cn x 0 with
  | true => exact pm_e_ift h0 ht hc (k1 hc)
  | false => exact pm_e_iff h0 ht hc (k2 hc)
theorem pm_e_ict {cn : Jvm.ClassFile.Cond} {off : Int} {t : Nat} {x y : Int32} (h0 : pm_as (pm_cd T) pc = some (.if_icmp cn off, len)) (ht : pm_tgt pc off = some t) (hc : pm_cz cn x y = true) (k : pm_E scr d T t lv st ph nc ns Q) : pm_E scr d T pc lv (.int y :: .int x :: st) ph nc ns Q :=
  pm_e_jmp h0 rfl (by show pm_jc (pm_cz cn x y) pc off st = _; unfold pm_jc; rw [ht, hc]; rfl) k
theorem pm_e_icf {cn : Jvm.ClassFile.Cond} {off : Int} {t : Nat} {x y : Int32} (h0 : pm_as (pm_cd T) pc = some (.if_icmp cn off, len)) (ht : pm_tgt pc off = some t) (hc : pm_cz cn x y = false) (k : pm_E scr d T (pc + 3) lv st ph nc ns Q) : pm_E scr d T pc lv (.int y :: .int x :: st) ph nc ns Q :=
  pm_e_jmp h0 rfl (by show pm_jc (pm_cz cn x y) pc off st = _; unfold pm_jc; rw [ht, hc]; rfl) k
theorem pm_e_ic {cn : Jvm.ClassFile.Cond} {off : Int} {t : Nat} {x y : Int32} (h0 : pm_as (pm_cd T) pc = some (.if_icmp cn off, len)) (ht : pm_tgt pc off = some t) (k1 : pm_cz cn x y = true → pm_E scr d T t lv st ph nc ns Q) (k2 : pm_cz cn x y = false → pm_E scr d T (pc + 3) lv st ph nc ns Q) : pm_E scr d T pc lv (.int y :: .int x :: st) ph nc ns Q := by
  cases hc : pm_cz cn x y with
  | true => exact pm_e_ict h0 ht hc (k1 hc)
  | false => exact pm_e_icf h0 ht hc (k2 hc)
theorem pm_e_rd (h0 : pm_as (pm_cd T) pc = some (i, len)) (h1 : pm_sim (pm_ml T) i lv st = none) (h2 : pm_jmp i pc st = none) (h3 : pm_rd T scr i st ph = some st2) (k : pm_E scr d T (pc + pm_len i) lv st2 ph nc ns Q) : pm_E scr d T pc lv st ph nc ns Q := by
  obtain ⟨f, v, ph2, nc2, ns2, h, hq⟩ := k
  refine ⟨f + 1, v, ph2, nc2, ns2, ?_, hq⟩
  unfold pm_run
  simp only [h0, h1, h2, h3]
  exact h
theorem pm_e_wr {k2 : Nat} {e2 : va_E} {ph1 : List va_E} (h0 : pm_as (pm_cd T) pc = some (i, len)) (h1 : pm_sim (pm_ml T) i lv st = none) (h2 : pm_jmp i pc st = none) (h3 : pm_rd T scr i st ph = none) (h4 : pm_wr T i st ph = some (st2, k2, e2)) (h5 : ph.set k2 e2 = ph1) (k : pm_E scr d T (pc + pm_len i) lv st2 ph1 nc ns Q) : pm_E scr d T pc lv st ph nc ns Q := by
  obtain ⟨f, v, ph2, nc2, ns2, h, hq⟩ := k
  refine ⟨f + 1, v, ph2, nc2, ns2, ?_, hq⟩
  unfold pm_run
  simp only [h0, h1, h2, h3, h4, h5]
  exact h
theorem pm_e_nw {e2 : va_E} {n2 : Nat} {ph1 : List va_E} {k2 : Nat} (h0 : pm_as (pm_cd T) pc = some (i, len)) (h1 : pm_sim (pm_ml T) i lv st = none) (h2 : pm_jmp i pc st = none) (h3 : pm_rd T scr i st ph = none) (h4 : pm_wr T i st ph = none) (h5 : pm_nw T i st = some (st2, e2, n2)) (h6 : ph ++ [e2] = ph1) (h7 : ph.length = k2) (k : pm_E scr d T (pc + pm_len i) lv (.ref k2 :: st2) ph1 (nc + 1) (ns + n2) Q) : pm_E scr d T pc lv st ph nc ns Q := by
  obtain ⟨f, v, ph2, nc2, ns2, h, hq⟩ := k
  refine ⟨f + 1, v, ph2, nc2, ns2, ?_, hq⟩
  unfold pm_run
  simp only [h0, h1, h2, h3, h4, h5, h6, h7]
  exact h
theorem pm_e_nat (h0 : pm_as (pm_cd T) pc = some (i, len)) (h1 : pm_sim (pm_ml T) i lv st = none) (h2 : pm_jmp i pc st = none) (h3 : pm_rd T scr i st ph = none) (h4 : pm_wr T i st ph = none) (h5 : pm_nw T i st = none) (h6 : pm_nat T i st = some st2) (k : pm_E scr d T (pc + pm_len i) lv st2 ph nc ns Q) : pm_E scr d T pc lv st ph nc ns Q := by
  obtain ⟨f, v, ph2, nc2, ns2, h, hq⟩ := k
  refine ⟨f + 1, v, ph2, nc2, ns2, ?_, hq⟩
  unfold pm_run
  simp only [h0, h1, h2, h3, h4, h5, h6]
  exact h
theorem pm_e_ret {v : Option Value} (h0 : pm_as (pm_cd T) pc = some (i, len)) (h1 : pm_sim (pm_ml T) i lv st = none) (h2 : pm_jmp i pc st = none) (h3 : pm_rd T scr i st ph = none) (h4 : pm_wr T i st ph = none) (h5 : pm_nw T i st = none) (h6 : pm_nat T i st = none) (h7 : pm_cpw T i st ph = none) (h8 : pm_ret T i st = some v) (k : Q v ph nc ns) : pm_E scr d T pc lv st ph nc ns Q := by
  refine ⟨1, v, ph, nc, ns, ?_, k⟩
  unfold pm_run
  simp only [h0, h1, h2, h3, h4, h5, h6, h7, h8]
theorem pm_e_call {T2 : pm_M} {as rest : List Value} (h0 : pm_as (pm_cd T) pc = some (i, len)) (h1 : pm_sim (pm_ml T) i lv st = none) (h2 : pm_jmp i pc st = none) (h3 : pm_rd T scr i st ph = none) (h4 : pm_wr T i st ph = none) (h5 : pm_nw T i st = none) (h6 : pm_nat T i st = none) (h7 : pm_cpw T i st ph = none) (h8 : pm_ret T i st = none) (h9 : pm_cal T i st ph = some (T2, as, rest))
    (k : pm_E none d T2 0 (lv_args 0 as) [] ph 0 0 (fun v ph2 c n => pm_E scr (d + 1) T (pc + pm_len i) lv (v.toList ++ rest) ph2 (nc + c) (ns + n) Q)) : pm_E scr (d + 1) T pc lv st ph nc ns Q := by
  obtain ⟨f, v, ph2, c2, n2, h, f', v', ph3, c3, n3, h', hq⟩ := k
  refine ⟨f + f' + 1, v', ph3, c3, n3, ?_, hq⟩
  have e1 := pm_run_le (Nat.le_add_right f f') h
  have e2 := pm_run_le (Nat.le_add_left f' f) h'
  unfold pm_run
  simp only [h0, h1, h2, h3, h4, h5, h6, h7, h8, h9, e1]
  exact e2
theorem pm_e_mono {Q2 : Option Value → List va_E → Nat → Nat → Prop} (h : pm_E scr d T pc lv st ph nc ns Q2) (hq : ∀ v ph2 c n, Q2 v ph2 c n → Q v ph2 c n) : pm_E scr d T pc lv st ph nc ns Q := by
  obtain ⟨f, v, ph2, nc2, ns2, h, q⟩ := h
  exact ⟨f, v, ph2, nc2, ns2, h, hq _ _ _ _ q⟩
theorem pm_e_top {x y : Int32} (h : x = y) (k : pm_E scr d T pc lv (.int y :: st) ph nc ns Q) : pm_E scr d T pc lv (.int x :: st) ph nc ns Q := by
  rw [h]
  exact k
theorem pm_e_inc {j : Nat} {n : Int} {x y : Int32} (h0 : pm_as (pm_cd T) pc = some (.iinc j n, len)) (hg : pm_get lv j = some (.int x)) (hv : x + Int32.ofInt n = y) (hk : j < pm_ml T) (hl : pm_set lv j (.int y) = lv2) (k : pm_E scr d T (pc + 3) lv2 st ph nc ns Q) : pm_E scr d T pc lv st ph nc ns Q :=
  pm_e_sim h0 (by show pm_inc (pm_ml T) lv j n st = _; unfold pm_inc; rw [hg]; dsimp only; rw [if_pos hk, hv, hl]) k
theorem pm_e_tsi {x : Int32} {t : Nat} (h0 : pm_as (pm_cd T) pc = some (i, len)) (hsw : pm_isw i = true) (h2 : pm_jmp i pc (.int x :: st) = some (t, st)) (k : pm_E scr d T t lv st ph nc ns Q) : pm_E scr d T pc lv (.int x :: st) ph nc ns Q :=
  pm_e_jmp h0 (pm_isw_none hsw (pm_ml T) lv (.int x :: st) T scr ph).1 h2 k
theorem pm_e_tso {x : Int32} {t : Nat} {dd lo hi : Int} {offs : Array Int} (h0 : pm_as (pm_cd T) pc = some (.tableswitch dd lo hi offs, len)) (hx : x.toInt < lo ∨ hi < x.toInt) (ht : pm_tgt pc dd = some t) (k : pm_E scr d T t lv st ph nc ns Q) : pm_E scr d T pc lv (.int x :: st) ph nc ns Q :=
  pm_e_jmp h0 rfl (by show pm_ts dd lo hi offs pc (.int x :: st) = _; unfold pm_ts; dsimp only; rw [if_pos hx]; unfold pm_jto; rw [ht]) k
theorem pm_e_lko {x : Int32} {t : Nat} {dd off : Int} {ps : Array (Int × Int)} (h0 : pm_as (pm_cd T) pc = some (.lookupswitch dd ps, len)) (hp : (ps.toList.zip (ps.toList.drop 1)).all (fun (a, next) => a.1 < next.1) = true) (ho : Op.lookupswitch.offset ps.toList dd x.toInt = off) (ht : pm_tgt pc off = some t) (k : pm_E scr d T t lv st ph nc ns Q) : pm_E scr d T pc lv (.int x :: st) ph nc ns Q :=
  pm_e_jmp h0 rfl (by show pm_lks dd ps pc (.int x :: st) = _; unfold pm_lks; dsimp only; rw [if_pos hp, ho]; unfold pm_jto; rw [ht]) k
theorem pm_e_sld {L j r : Nat} {xs : Nat → Int32} {x : Int32} (h0 : pm_as (pm_cd T) pc = some (.iaload, len)) (hj : pm_ix x L = some j) (k : pm_E (some (L, xs)) d T (pc + 1) lv (.int (xs j) :: st) ph nc ns Q) : pm_E (some (L, xs)) d T pc lv (.int x :: .retAddr r :: st) ph nc ns Q :=
  pm_e_rd h0 rfl rfl (by show ((pm_ix x L).bind fun j => some (.int (xs j) :: st)) = _; rw [hj]; rfl) k
theorem pm_e_sldc {L j r : Nat} {xs : Nat → Int32} {x y : Int32} (e : xs j = y) (h0 : pm_as (pm_cd T) pc = some (.iaload, len)) (hj : pm_ix x L = some j) (k : pm_E (some (L, xs)) d T (pc + 1) lv (.int y :: st) ph nc ns Q) : pm_E (some (L, xs)) d T pc lv (.int x :: .retAddr r :: st) ph nc ns Q :=
  pm_e_sld h0 hj (by rw [e]; exact k)
end PMEV
theorem pm_z_lt_t {x y : Int32} (K : Int) (hy : y.toInt = K) (h : x.toInt < K) : pm_cz .lt x y = true := pm_cz_lt.mpr (Int32.lt_iff_toInt_lt.mpr (by rw [hy]; exact h))
theorem pm_z_lt_f {x y : Int32} (K : Int) (hy : y.toInt = K) (h : K ≤ x.toInt) : pm_cz .lt x y = false := pm_bf pm_cz_lt (fun q => by have := Int32.lt_iff_toInt_lt.mp q; omega)
theorem pm_z_ge_t {x y : Int32} (K : Int) (hy : y.toInt = K) (h : K ≤ x.toInt) : pm_cz .ge x y = true := pm_cz_ge.mpr (Int32.le_iff_toInt_le.mpr (by rw [hy]; exact h))
theorem pm_z_ge_f {x y : Int32} (K : Int) (hy : y.toInt = K) (h : x.toInt < K) : pm_cz .ge x y = false := pm_bf pm_cz_ge (fun q => by have := Int32.le_iff_toInt_le.mp q; omega)
theorem pm_z_gt_t {x y : Int32} (K : Int) (hy : y.toInt = K) (h : K < x.toInt) : pm_cz .gt x y = true := pm_cz_gt.mpr (Int32.lt_iff_toInt_lt.mpr (by rw [hy]; exact h))
theorem pm_z_gt_f {x y : Int32} (K : Int) (hy : y.toInt = K) (h : x.toInt ≤ K) : pm_cz .gt x y = false := pm_bf pm_cz_gt (fun q => by have := Int32.lt_iff_toInt_lt.mp q; omega)
theorem pm_z_le_t {x y : Int32} (K : Int) (hy : y.toInt = K) (h : x.toInt ≤ K) : pm_cz .le x y = true := pm_cz_le.mpr (Int32.le_iff_toInt_le.mpr (by rw [hy]; exact h))
theorem pm_z_le_f {x y : Int32} (K : Int) (hy : y.toInt = K) (h : K < x.toInt) : pm_cz .le x y = false := pm_bf pm_cz_le (fun q => by have := Int32.le_iff_toInt_le.mp q; omega)
theorem pm_z_eq_t {x y : Int32} (K : Int) (hy : y.toInt = K) (h : x.toInt = K) : pm_cz .eq x y = true := pm_cz_eq.mpr (Int32.toInt_inj.mp (by rw [hy]; exact h))
theorem pm_z_eq_f {x y : Int32} (K : Int) (hy : y.toInt = K) (h : x.toInt ≠ K) : pm_cz .eq x y = false := pm_bf pm_cz_eq (fun q => h (by rw [q]; exact hy))
theorem pm_z_ne_t {x y : Int32} (K : Int) (hy : y.toInt = K) (h : x.toInt ≠ K) : pm_cz .ne x y = true := pm_cz_ne.mpr (fun q => h (by rw [q]; exact hy))
theorem pm_z_ne_f {x y : Int32} (K : Int) (hy : y.toInt = K) (h : x.toInt = K) : pm_cz .ne x y = false := pm_bf pm_cz_ne (fun q => q (Int32.toInt_inj.mp (by rw [hy]; exact h)))
theorem pm_zl_lt {cn : Jvm.ClassFile.Cond} {t : Int32} {c : Int64} (K : Int) {b : Bool} (hc : c.toInt = K) (h : t.toInt < K) (hb : pm_cz cn (-1) 0 = b) : pm_cz cn (lg_cmp t.toInt64 c) 0 = b := by
  have e : lg_cmp t.toInt64 c = -1 := by
    unfold lg_cmp
    rw [if_neg (fun q => by have := Int64.lt_iff_toInt_lt.mp q; rw [Int32.toInt_toInt64, hc] at this; omega), if_neg (fun q => by have := congrArg Int64.toInt q; rw [Int32.toInt_toInt64, hc] at this; omega)]
  rw [e]
  exact hb
theorem pm_zl_eq {cn : Jvm.ClassFile.Cond} {t : Int32} {c : Int64} (K : Int) {b : Bool} (hc : c.toInt = K) (h : t.toInt = K) (hb : pm_cz cn 0 0 = b) : pm_cz cn (lg_cmp t.toInt64 c) 0 = b := by
  have e : lg_cmp t.toInt64 c = 0 := by
    unfold lg_cmp
    rw [if_neg (fun q => by have := Int64.lt_iff_toInt_lt.mp q; rw [Int32.toInt_toInt64, hc] at this; omega), if_pos (Int64.toInt_inj.mp (by rw [Int32.toInt_toInt64, hc]; exact h))]
  rw [e]
  exact hb
theorem pm_zl_gt {cn : Jvm.ClassFile.Cond} {t : Int32} {c : Int64} (K : Int) {b : Bool} (hc : c.toInt = K) (h : K < t.toInt) (hb : pm_cz cn 1 0 = b) : pm_cz cn (lg_cmp t.toInt64 c) 0 = b := by
  have e : lg_cmp t.toInt64 c = 1 := by
    unfold lg_cmp
    rw [if_pos (Int64.lt_iff_toInt_lt.mpr (by rw [Int32.toInt_toInt64, hc]; exact h))]
  rw [e]
  exact hb
end
section
/-! every instruction of the tables, by its place -/
theorem pm_a0_0 : pm_as (pm_cd pm_mm0) 0 = some (.new 7, 3) := by decide +kernel
theorem pm_a0_3 : pm_as (pm_cd pm_mm0) 3 = some (.dup, 1) := by decide +kernel
theorem pm_a0_4 : pm_as (pm_cd pm_mm0) 4 = some (.invokespecial 9, 3) := by decide +kernel
theorem pm_a0_7 : pm_as (pm_cd pm_mm0) 7 = some (.astore_n 1, 1) := by decide +kernel
theorem pm_a0_8 : pm_as (pm_cd pm_mm0) 8 = some (.new 10, 3) := by decide +kernel
theorem pm_a0_11 : pm_as (pm_cd pm_mm0) 11 = some (.dup, 1) := by decide +kernel
theorem pm_a0_12 : pm_as (pm_cd pm_mm0) 12 = some (.invokespecial 12, 3) := by decide +kernel
theorem pm_a0_15 : pm_as (pm_cd pm_mm0) 15 = some (.astore_n 2, 1) := by decide +kernel
theorem pm_a0_16 : pm_as (pm_cd pm_mm0) 16 = some (.iconst 0, 1) := by decide +kernel
theorem pm_a0_17 : pm_as (pm_cd pm_mm0) 17 = some (.istore_n 3, 1) := by decide +kernel
theorem pm_a0_18 : pm_as (pm_cd pm_mm0) 18 = some (.iload_n 3, 1) := by decide +kernel
theorem pm_a0_19 : pm_as (pm_cd pm_mm0) 19 = some (.aload_n 0, 1) := by decide +kernel
theorem pm_a0_20 : pm_as (pm_cd pm_mm0) 20 = some (.arraylength, 1) := by decide +kernel
theorem pm_a0_21 : pm_as (pm_cd pm_mm0) 21 = some (.bipush 6, 2) := by decide +kernel
theorem pm_a0_23 : pm_as (pm_cd pm_mm0) 23 = some (.isub, 1) := by decide +kernel
theorem pm_a0_24 : pm_as (pm_cd pm_mm0) 24 = some (.if_icmp .gt 761, 3) := by decide +kernel
theorem pm_a0_27 : pm_as (pm_cd pm_mm0) 27 = some (.aload_n 0, 1) := by decide +kernel
theorem pm_a0_28 : pm_as (pm_cd pm_mm0) 28 = some (.iload_n 3, 1) := by decide +kernel
theorem pm_a0_29 : pm_as (pm_cd pm_mm0) 29 = some (.iaload, 1) := by decide +kernel
theorem pm_a0_30 : pm_as (pm_cd pm_mm0) 30 = some (.bipush 31, 2) := by decide +kernel
theorem pm_a0_32 : pm_as (pm_cd pm_mm0) 32 = some (.iand, 1) := by decide +kernel
theorem pm_a0_33 : pm_as (pm_cd pm_mm0) 33 = some (.tableswitch 746 0 22 #[107, 170, 193, 206, 219, 242, 275, 308, 341, 364, 397, 430, 473, 496, 529, 552, 575, 598, 631, 654, 677, 710, 723], 107) := by decide +kernel
theorem pm_a0_140 : pm_as (pm_cd pm_mm0) 140 = some (.aload_n 1, 1) := by decide +kernel
theorem pm_a0_141 : pm_as (pm_cd pm_mm0) 141 = some (.aload_n 0, 1) := by decide +kernel
theorem pm_a0_142 : pm_as (pm_cd pm_mm0) 142 = some (.iload_n 3, 1) := by decide +kernel
theorem pm_a0_143 : pm_as (pm_cd pm_mm0) 143 = some (.iconst 1, 1) := by decide +kernel
theorem pm_a0_144 : pm_as (pm_cd pm_mm0) 144 = some (.iadd, 1) := by decide +kernel
theorem pm_a0_145 : pm_as (pm_cd pm_mm0) 145 = some (.iaload, 1) := by decide +kernel
theorem pm_a0_146 : pm_as (pm_cd pm_mm0) 146 = some (.aload_n 0, 1) := by decide +kernel
theorem pm_a0_147 : pm_as (pm_cd pm_mm0) 147 = some (.iload_n 3, 1) := by decide +kernel
theorem pm_a0_148 : pm_as (pm_cd pm_mm0) 148 = some (.iconst 2, 1) := by decide +kernel
theorem pm_a0_149 : pm_as (pm_cd pm_mm0) 149 = some (.iadd, 1) := by decide +kernel
theorem pm_a0_150 : pm_as (pm_cd pm_mm0) 150 = some (.iaload, 1) := by decide +kernel
theorem pm_a0_151 : pm_as (pm_cd pm_mm0) 151 = some (.aload_n 0, 1) := by decide +kernel
theorem pm_a0_152 : pm_as (pm_cd pm_mm0) 152 = some (.iload_n 3, 1) := by decide +kernel
theorem pm_a0_153 : pm_as (pm_cd pm_mm0) 153 = some (.iconst 3, 1) := by decide +kernel
theorem pm_a0_154 : pm_as (pm_cd pm_mm0) 154 = some (.iadd, 1) := by decide +kernel
theorem pm_a0_155 : pm_as (pm_cd pm_mm0) 155 = some (.iaload, 1) := by decide +kernel
theorem pm_a0_156 : pm_as (pm_cd pm_mm0) 156 = some (.aload_n 0, 1) := by decide +kernel
theorem pm_a0_157 : pm_as (pm_cd pm_mm0) 157 = some (.iload_n 3, 1) := by decide +kernel
theorem pm_a0_158 : pm_as (pm_cd pm_mm0) 158 = some (.iconst 4, 1) := by decide +kernel
theorem pm_a0_159 : pm_as (pm_cd pm_mm0) 159 = some (.iadd, 1) := by decide +kernel
theorem pm_a0_160 : pm_as (pm_cd pm_mm0) 160 = some (.iaload, 1) := by decide +kernel
theorem pm_a0_161 : pm_as (pm_cd pm_mm0) 161 = some (.aload_n 0, 1) := by decide +kernel
theorem pm_a0_162 : pm_as (pm_cd pm_mm0) 162 = some (.iload_n 3, 1) := by decide +kernel
theorem pm_a0_163 : pm_as (pm_cd pm_mm0) 163 = some (.iconst 5, 1) := by decide +kernel
theorem pm_a0_164 : pm_as (pm_cd pm_mm0) 164 = some (.iadd, 1) := by decide +kernel
theorem pm_a0_165 : pm_as (pm_cd pm_mm0) 165 = some (.iaload, 1) := by decide +kernel
theorem pm_a0_166 : pm_as (pm_cd pm_mm0) 166 = some (.invokevirtual 13, 3) := by decide +kernel
theorem pm_a0_169 : pm_as (pm_cd pm_mm0) 169 = some (.aload_n 2, 1) := by decide +kernel
theorem pm_a0_170 : pm_as (pm_cd pm_mm0) 170 = some (.aload_n 0, 1) := by decide +kernel
theorem pm_a0_171 : pm_as (pm_cd pm_mm0) 171 = some (.iload_n 3, 1) := by decide +kernel
theorem pm_a0_172 : pm_as (pm_cd pm_mm0) 172 = some (.iconst 1, 1) := by decide +kernel
theorem pm_a0_173 : pm_as (pm_cd pm_mm0) 173 = some (.iadd, 1) := by decide +kernel
theorem pm_a0_174 : pm_as (pm_cd pm_mm0) 174 = some (.iaload, 1) := by decide +kernel
theorem pm_a0_175 : pm_as (pm_cd pm_mm0) 175 = some (.aload_n 0, 1) := by decide +kernel
theorem pm_a0_176 : pm_as (pm_cd pm_mm0) 176 = some (.iload_n 3, 1) := by decide +kernel
theorem pm_a0_177 : pm_as (pm_cd pm_mm0) 177 = some (.iconst 2, 1) := by decide +kernel
theorem pm_a0_178 : pm_as (pm_cd pm_mm0) 178 = some (.iadd, 1) := by decide +kernel
theorem pm_a0_179 : pm_as (pm_cd pm_mm0) 179 = some (.iaload, 1) := by decide +kernel
theorem pm_a0_180 : pm_as (pm_cd pm_mm0) 180 = some (.aload_n 0, 1) := by decide +kernel
theorem pm_a0_181 : pm_as (pm_cd pm_mm0) 181 = some (.iload_n 3, 1) := by decide +kernel
theorem pm_a0_182 : pm_as (pm_cd pm_mm0) 182 = some (.iconst 3, 1) := by decide +kernel
theorem pm_a0_183 : pm_as (pm_cd pm_mm0) 183 = some (.iadd, 1) := by decide +kernel
theorem pm_a0_184 : pm_as (pm_cd pm_mm0) 184 = some (.iaload, 1) := by decide +kernel
theorem pm_a0_185 : pm_as (pm_cd pm_mm0) 185 = some (.aload_n 0, 1) := by decide +kernel
theorem pm_a0_186 : pm_as (pm_cd pm_mm0) 186 = some (.iload_n 3, 1) := by decide +kernel
theorem pm_a0_187 : pm_as (pm_cd pm_mm0) 187 = some (.iconst 4, 1) := by decide +kernel
theorem pm_a0_188 : pm_as (pm_cd pm_mm0) 188 = some (.iadd, 1) := by decide +kernel
theorem pm_a0_189 : pm_as (pm_cd pm_mm0) 189 = some (.iaload, 1) := by decide +kernel
theorem pm_a0_190 : pm_as (pm_cd pm_mm0) 190 = some (.aload_n 0, 1) := by decide +kernel
theorem pm_a0_191 : pm_as (pm_cd pm_mm0) 191 = some (.iload_n 3, 1) := by decide +kernel
theorem pm_a0_192 : pm_as (pm_cd pm_mm0) 192 = some (.iconst 5, 1) := by decide +kernel
theorem pm_a0_193 : pm_as (pm_cd pm_mm0) 193 = some (.iadd, 1) := by decide +kernel
theorem pm_a0_194 : pm_as (pm_cd pm_mm0) 194 = some (.iaload, 1) := by decide +kernel
theorem pm_a0_195 : pm_as (pm_cd pm_mm0) 195 = some (.invokevirtual 17, 3) := by decide +kernel
theorem pm_a0_198 : pm_as (pm_cd pm_mm0) 198 = some (.if_icmp .eq 581, 3) := by decide +kernel
theorem pm_a0_203 : pm_as (pm_cd pm_mm0) 203 = some (.aload_n 1, 1) := by decide +kernel
theorem pm_a0_204 : pm_as (pm_cd pm_mm0) 204 = some (.aload_n 0, 1) := by decide +kernel
theorem pm_a0_205 : pm_as (pm_cd pm_mm0) 205 = some (.iload_n 3, 1) := by decide +kernel
theorem pm_a0_206 : pm_as (pm_cd pm_mm0) 206 = some (.iconst 1, 1) := by decide +kernel
theorem pm_a0_207 : pm_as (pm_cd pm_mm0) 207 = some (.iadd, 1) := by decide +kernel
theorem pm_a0_208 : pm_as (pm_cd pm_mm0) 208 = some (.iaload, 1) := by decide +kernel
theorem pm_a0_209 : pm_as (pm_cd pm_mm0) 209 = some (.invokevirtual 18, 3) := by decide +kernel
theorem pm_a0_212 : pm_as (pm_cd pm_mm0) 212 = some (.aload_n 2, 1) := by decide +kernel
theorem pm_a0_213 : pm_as (pm_cd pm_mm0) 213 = some (.aload_n 0, 1) := by decide +kernel
theorem pm_a0_214 : pm_as (pm_cd pm_mm0) 214 = some (.iload_n 3, 1) := by decide +kernel
theorem pm_a0_215 : pm_as (pm_cd pm_mm0) 215 = some (.iconst 1, 1) := by decide +kernel
theorem pm_a0_216 : pm_as (pm_cd pm_mm0) 216 = some (.iadd, 1) := by decide +kernel
theorem pm_a0_217 : pm_as (pm_cd pm_mm0) 217 = some (.iaload, 1) := by decide +kernel
theorem pm_a0_218 : pm_as (pm_cd pm_mm0) 218 = some (.invokevirtual 22, 3) := by decide +kernel
theorem pm_a0_221 : pm_as (pm_cd pm_mm0) 221 = some (.if_icmp .eq 558, 3) := by decide +kernel
theorem pm_a0_226 : pm_as (pm_cd pm_mm0) 226 = some (.aload_n 1, 1) := by decide +kernel
theorem pm_a0_227 : pm_as (pm_cd pm_mm0) 227 = some (.invokevirtual 23, 3) := by decide +kernel
theorem pm_a0_230 : pm_as (pm_cd pm_mm0) 230 = some (.aload_n 2, 1) := by decide +kernel
theorem pm_a0_231 : pm_as (pm_cd pm_mm0) 231 = some (.invokevirtual 27, 3) := by decide +kernel
theorem pm_a0_234 : pm_as (pm_cd pm_mm0) 234 = some (.if_icmp .eq 545, 3) := by decide +kernel
theorem pm_a0_239 : pm_as (pm_cd pm_mm0) 239 = some (.aload_n 1, 1) := by decide +kernel
theorem pm_a0_240 : pm_as (pm_cd pm_mm0) 240 = some (.invokevirtual 28, 3) := by decide +kernel
theorem pm_a0_243 : pm_as (pm_cd pm_mm0) 243 = some (.aload_n 2, 1) := by decide +kernel
theorem pm_a0_244 : pm_as (pm_cd pm_mm0) 244 = some (.invokevirtual 31, 3) := by decide +kernel
theorem pm_a0_247 : pm_as (pm_cd pm_mm0) 247 = some (.if_icmp .eq 532, 3) := by decide +kernel
theorem pm_a0_252 : pm_as (pm_cd pm_mm0) 252 = some (.aload_n 1, 1) := by decide +kernel
theorem pm_a0_253 : pm_as (pm_cd pm_mm0) 253 = some (.aload_n 0, 1) := by decide +kernel
theorem pm_a0_254 : pm_as (pm_cd pm_mm0) 254 = some (.iload_n 3, 1) := by decide +kernel
theorem pm_a0_255 : pm_as (pm_cd pm_mm0) 255 = some (.iconst 1, 1) := by decide +kernel
theorem pm_a0_256 : pm_as (pm_cd pm_mm0) 256 = some (.iadd, 1) := by decide +kernel
theorem pm_a0_257 : pm_as (pm_cd pm_mm0) 257 = some (.iaload, 1) := by decide +kernel
theorem pm_a0_258 : pm_as (pm_cd pm_mm0) 258 = some (.invokevirtual 32, 3) := by decide +kernel
theorem pm_a0_261 : pm_as (pm_cd pm_mm0) 261 = some (.aload_n 2, 1) := by decide +kernel
theorem pm_a0_262 : pm_as (pm_cd pm_mm0) 262 = some (.aload_n 0, 1) := by decide +kernel
theorem pm_a0_263 : pm_as (pm_cd pm_mm0) 263 = some (.iload_n 3, 1) := by decide +kernel
theorem pm_a0_264 : pm_as (pm_cd pm_mm0) 264 = some (.iconst 1, 1) := by decide +kernel
theorem pm_a0_265 : pm_as (pm_cd pm_mm0) 265 = some (.iadd, 1) := by decide +kernel
theorem pm_a0_266 : pm_as (pm_cd pm_mm0) 266 = some (.iaload, 1) := by decide +kernel
theorem pm_a0_267 : pm_as (pm_cd pm_mm0) 267 = some (.invokevirtual 35, 3) := by decide +kernel
theorem pm_a0_270 : pm_as (pm_cd pm_mm0) 270 = some (.if_icmp .eq 509, 3) := by decide +kernel
theorem pm_a0_275 : pm_as (pm_cd pm_mm0) 275 = some (.aload_n 1, 1) := by decide +kernel
theorem pm_a0_276 : pm_as (pm_cd pm_mm0) 276 = some (.aload_n 0, 1) := by decide +kernel
theorem pm_a0_277 : pm_as (pm_cd pm_mm0) 277 = some (.iload_n 3, 1) := by decide +kernel
theorem pm_a0_278 : pm_as (pm_cd pm_mm0) 278 = some (.iconst 1, 1) := by decide +kernel
theorem pm_a0_279 : pm_as (pm_cd pm_mm0) 279 = some (.iadd, 1) := by decide +kernel
theorem pm_a0_280 : pm_as (pm_cd pm_mm0) 280 = some (.iaload, 1) := by decide +kernel
theorem pm_a0_281 : pm_as (pm_cd pm_mm0) 281 = some (.aload_n 0, 1) := by decide +kernel
theorem pm_a0_282 : pm_as (pm_cd pm_mm0) 282 = some (.iload_n 3, 1) := by decide +kernel
theorem pm_a0_283 : pm_as (pm_cd pm_mm0) 283 = some (.iconst 2, 1) := by decide +kernel
theorem pm_a0_284 : pm_as (pm_cd pm_mm0) 284 = some (.iadd, 1) := by decide +kernel
theorem pm_a0_285 : pm_as (pm_cd pm_mm0) 285 = some (.iaload, 1) := by decide +kernel
theorem pm_a0_286 : pm_as (pm_cd pm_mm0) 286 = some (.invokevirtual 36, 3) := by decide +kernel
theorem pm_a0_289 : pm_as (pm_cd pm_mm0) 289 = some (.aload_n 2, 1) := by decide +kernel
theorem pm_a0_290 : pm_as (pm_cd pm_mm0) 290 = some (.aload_n 0, 1) := by decide +kernel
theorem pm_a0_291 : pm_as (pm_cd pm_mm0) 291 = some (.iload_n 3, 1) := by decide +kernel
theorem pm_a0_292 : pm_as (pm_cd pm_mm0) 292 = some (.iconst 1, 1) := by decide +kernel
theorem pm_a0_293 : pm_as (pm_cd pm_mm0) 293 = some (.iadd, 1) := by decide +kernel
theorem pm_a0_294 : pm_as (pm_cd pm_mm0) 294 = some (.iaload, 1) := by decide +kernel
theorem pm_a0_295 : pm_as (pm_cd pm_mm0) 295 = some (.aload_n 0, 1) := by decide +kernel
theorem pm_a0_296 : pm_as (pm_cd pm_mm0) 296 = some (.iload_n 3, 1) := by decide +kernel
theorem pm_a0_297 : pm_as (pm_cd pm_mm0) 297 = some (.iconst 2, 1) := by decide +kernel
theorem pm_a0_298 : pm_as (pm_cd pm_mm0) 298 = some (.iadd, 1) := by decide +kernel
theorem pm_a0_299 : pm_as (pm_cd pm_mm0) 299 = some (.iaload, 1) := by decide +kernel
theorem pm_a0_300 : pm_as (pm_cd pm_mm0) 300 = some (.invokevirtual 40, 3) := by decide +kernel
theorem pm_a0_303 : pm_as (pm_cd pm_mm0) 303 = some (.if_icmp .eq 476, 3) := by decide +kernel
theorem pm_a0_308 : pm_as (pm_cd pm_mm0) 308 = some (.aload_n 1, 1) := by decide +kernel
theorem pm_a0_309 : pm_as (pm_cd pm_mm0) 309 = some (.aload_n 0, 1) := by decide +kernel
theorem pm_a0_310 : pm_as (pm_cd pm_mm0) 310 = some (.iload_n 3, 1) := by decide +kernel
theorem pm_a0_311 : pm_as (pm_cd pm_mm0) 311 = some (.iconst 1, 1) := by decide +kernel
theorem pm_a0_312 : pm_as (pm_cd pm_mm0) 312 = some (.iadd, 1) := by decide +kernel
theorem pm_a0_313 : pm_as (pm_cd pm_mm0) 313 = some (.iaload, 1) := by decide +kernel
theorem pm_a0_314 : pm_as (pm_cd pm_mm0) 314 = some (.aload_n 0, 1) := by decide +kernel
theorem pm_a0_315 : pm_as (pm_cd pm_mm0) 315 = some (.iload_n 3, 1) := by decide +kernel
theorem pm_a0_316 : pm_as (pm_cd pm_mm0) 316 = some (.iconst 2, 1) := by decide +kernel
theorem pm_a0_317 : pm_as (pm_cd pm_mm0) 317 = some (.iadd, 1) := by decide +kernel
theorem pm_a0_318 : pm_as (pm_cd pm_mm0) 318 = some (.iaload, 1) := by decide +kernel
theorem pm_a0_319 : pm_as (pm_cd pm_mm0) 319 = some (.invokevirtual 41, 3) := by decide +kernel
theorem pm_a0_322 : pm_as (pm_cd pm_mm0) 322 = some (.aload_n 2, 1) := by decide +kernel
theorem pm_a0_323 : pm_as (pm_cd pm_mm0) 323 = some (.aload_n 0, 1) := by decide +kernel
theorem pm_a0_324 : pm_as (pm_cd pm_mm0) 324 = some (.iload_n 3, 1) := by decide +kernel
theorem pm_a0_325 : pm_as (pm_cd pm_mm0) 325 = some (.iconst 1, 1) := by decide +kernel
theorem pm_a0_326 : pm_as (pm_cd pm_mm0) 326 = some (.iadd, 1) := by decide +kernel
theorem pm_a0_327 : pm_as (pm_cd pm_mm0) 327 = some (.iaload, 1) := by decide +kernel
theorem pm_a0_328 : pm_as (pm_cd pm_mm0) 328 = some (.aload_n 0, 1) := by decide +kernel
theorem pm_a0_329 : pm_as (pm_cd pm_mm0) 329 = some (.iload_n 3, 1) := by decide +kernel
theorem pm_a0_330 : pm_as (pm_cd pm_mm0) 330 = some (.iconst 2, 1) := by decide +kernel
theorem pm_a0_331 : pm_as (pm_cd pm_mm0) 331 = some (.iadd, 1) := by decide +kernel
theorem pm_a0_332 : pm_as (pm_cd pm_mm0) 332 = some (.iaload, 1) := by decide +kernel
theorem pm_a0_333 : pm_as (pm_cd pm_mm0) 333 = some (.invokevirtual 44, 3) := by decide +kernel
theorem pm_a0_336 : pm_as (pm_cd pm_mm0) 336 = some (.if_icmp .eq 443, 3) := by decide +kernel
theorem pm_a0_341 : pm_as (pm_cd pm_mm0) 341 = some (.aload_n 1, 1) := by decide +kernel
theorem pm_a0_342 : pm_as (pm_cd pm_mm0) 342 = some (.aload_n 0, 1) := by decide +kernel
theorem pm_a0_343 : pm_as (pm_cd pm_mm0) 343 = some (.iload_n 3, 1) := by decide +kernel
theorem pm_a0_344 : pm_as (pm_cd pm_mm0) 344 = some (.iconst 1, 1) := by decide +kernel
theorem pm_a0_345 : pm_as (pm_cd pm_mm0) 345 = some (.iadd, 1) := by decide +kernel
theorem pm_a0_346 : pm_as (pm_cd pm_mm0) 346 = some (.iaload, 1) := by decide +kernel
theorem pm_a0_347 : pm_as (pm_cd pm_mm0) 347 = some (.aload_n 0, 1) := by decide +kernel
theorem pm_a0_348 : pm_as (pm_cd pm_mm0) 348 = some (.iload_n 3, 1) := by decide +kernel
theorem pm_a0_349 : pm_as (pm_cd pm_mm0) 349 = some (.iconst 2, 1) := by decide +kernel
theorem pm_a0_350 : pm_as (pm_cd pm_mm0) 350 = some (.iadd, 1) := by decide +kernel
theorem pm_a0_351 : pm_as (pm_cd pm_mm0) 351 = some (.iaload, 1) := by decide +kernel
theorem pm_a0_352 : pm_as (pm_cd pm_mm0) 352 = some (.invokevirtual 45, 3) := by decide +kernel
theorem pm_a0_355 : pm_as (pm_cd pm_mm0) 355 = some (.aload_n 2, 1) := by decide +kernel
theorem pm_a0_356 : pm_as (pm_cd pm_mm0) 356 = some (.aload_n 0, 1) := by decide +kernel
theorem pm_a0_357 : pm_as (pm_cd pm_mm0) 357 = some (.iload_n 3, 1) := by decide +kernel
theorem pm_a0_358 : pm_as (pm_cd pm_mm0) 358 = some (.iconst 1, 1) := by decide +kernel
theorem pm_a0_359 : pm_as (pm_cd pm_mm0) 359 = some (.iadd, 1) := by decide +kernel
theorem pm_a0_360 : pm_as (pm_cd pm_mm0) 360 = some (.iaload, 1) := by decide +kernel
theorem pm_a0_361 : pm_as (pm_cd pm_mm0) 361 = some (.aload_n 0, 1) := by decide +kernel
theorem pm_a0_362 : pm_as (pm_cd pm_mm0) 362 = some (.iload_n 3, 1) := by decide +kernel
theorem pm_a0_363 : pm_as (pm_cd pm_mm0) 363 = some (.iconst 2, 1) := by decide +kernel
theorem pm_a0_364 : pm_as (pm_cd pm_mm0) 364 = some (.iadd, 1) := by decide +kernel
theorem pm_a0_365 : pm_as (pm_cd pm_mm0) 365 = some (.iaload, 1) := by decide +kernel
theorem pm_a0_366 : pm_as (pm_cd pm_mm0) 366 = some (.invokevirtual 48, 3) := by decide +kernel
theorem pm_a0_369 : pm_as (pm_cd pm_mm0) 369 = some (.if_icmp .eq 410, 3) := by decide +kernel
theorem pm_a0_374 : pm_as (pm_cd pm_mm0) 374 = some (.aload_n 1, 1) := by decide +kernel
theorem pm_a0_375 : pm_as (pm_cd pm_mm0) 375 = some (.aload_n 0, 1) := by decide +kernel
theorem pm_a0_376 : pm_as (pm_cd pm_mm0) 376 = some (.iload_n 3, 1) := by decide +kernel
theorem pm_a0_377 : pm_as (pm_cd pm_mm0) 377 = some (.iconst 1, 1) := by decide +kernel
theorem pm_a0_378 : pm_as (pm_cd pm_mm0) 378 = some (.iadd, 1) := by decide +kernel
theorem pm_a0_379 : pm_as (pm_cd pm_mm0) 379 = some (.iaload, 1) := by decide +kernel
theorem pm_a0_380 : pm_as (pm_cd pm_mm0) 380 = some (.invokevirtual 49, 3) := by decide +kernel
theorem pm_a0_383 : pm_as (pm_cd pm_mm0) 383 = some (.aload_n 2, 1) := by decide +kernel
theorem pm_a0_384 : pm_as (pm_cd pm_mm0) 384 = some (.aload_n 0, 1) := by decide +kernel
theorem pm_a0_385 : pm_as (pm_cd pm_mm0) 385 = some (.iload_n 3, 1) := by decide +kernel
theorem pm_a0_386 : pm_as (pm_cd pm_mm0) 386 = some (.iconst 1, 1) := by decide +kernel
theorem pm_a0_387 : pm_as (pm_cd pm_mm0) 387 = some (.iadd, 1) := by decide +kernel
theorem pm_a0_388 : pm_as (pm_cd pm_mm0) 388 = some (.iaload, 1) := by decide +kernel
theorem pm_a0_389 : pm_as (pm_cd pm_mm0) 389 = some (.invokevirtual 52, 3) := by decide +kernel
theorem pm_a0_392 : pm_as (pm_cd pm_mm0) 392 = some (.if_icmp .eq 387, 3) := by decide +kernel
theorem pm_a0_397 : pm_as (pm_cd pm_mm0) 397 = some (.aload_n 1, 1) := by decide +kernel
theorem pm_a0_398 : pm_as (pm_cd pm_mm0) 398 = some (.aload_n 0, 1) := by decide +kernel
theorem pm_a0_399 : pm_as (pm_cd pm_mm0) 399 = some (.iload_n 3, 1) := by decide +kernel
theorem pm_a0_400 : pm_as (pm_cd pm_mm0) 400 = some (.iconst 1, 1) := by decide +kernel
theorem pm_a0_401 : pm_as (pm_cd pm_mm0) 401 = some (.iadd, 1) := by decide +kernel
theorem pm_a0_402 : pm_as (pm_cd pm_mm0) 402 = some (.iaload, 1) := by decide +kernel
theorem pm_a0_403 : pm_as (pm_cd pm_mm0) 403 = some (.aload_n 0, 1) := by decide +kernel
theorem pm_a0_404 : pm_as (pm_cd pm_mm0) 404 = some (.iload_n 3, 1) := by decide +kernel
theorem pm_a0_405 : pm_as (pm_cd pm_mm0) 405 = some (.iconst 2, 1) := by decide +kernel
theorem pm_a0_406 : pm_as (pm_cd pm_mm0) 406 = some (.iadd, 1) := by decide +kernel
theorem pm_a0_407 : pm_as (pm_cd pm_mm0) 407 = some (.iaload, 1) := by decide +kernel
theorem pm_a0_408 : pm_as (pm_cd pm_mm0) 408 = some (.invokevirtual 53, 3) := by decide +kernel
theorem pm_a0_411 : pm_as (pm_cd pm_mm0) 411 = some (.aload_n 2, 1) := by decide +kernel
theorem pm_a0_412 : pm_as (pm_cd pm_mm0) 412 = some (.aload_n 0, 1) := by decide +kernel
theorem pm_a0_413 : pm_as (pm_cd pm_mm0) 413 = some (.iload_n 3, 1) := by decide +kernel
theorem pm_a0_414 : pm_as (pm_cd pm_mm0) 414 = some (.iconst 1, 1) := by decide +kernel
theorem pm_a0_415 : pm_as (pm_cd pm_mm0) 415 = some (.iadd, 1) := by decide +kernel
theorem pm_a0_416 : pm_as (pm_cd pm_mm0) 416 = some (.iaload, 1) := by decide +kernel
theorem pm_a0_417 : pm_as (pm_cd pm_mm0) 417 = some (.aload_n 0, 1) := by decide +kernel
theorem pm_a0_418 : pm_as (pm_cd pm_mm0) 418 = some (.iload_n 3, 1) := by decide +kernel
theorem pm_a0_419 : pm_as (pm_cd pm_mm0) 419 = some (.iconst 2, 1) := by decide +kernel
theorem pm_a0_420 : pm_as (pm_cd pm_mm0) 420 = some (.iadd, 1) := by decide +kernel
theorem pm_a0_421 : pm_as (pm_cd pm_mm0) 421 = some (.iaload, 1) := by decide +kernel
theorem pm_a0_422 : pm_as (pm_cd pm_mm0) 422 = some (.invokevirtual 56, 3) := by decide +kernel
theorem pm_a0_425 : pm_as (pm_cd pm_mm0) 425 = some (.if_icmp .eq 354, 3) := by decide +kernel
theorem pm_a0_430 : pm_as (pm_cd pm_mm0) 430 = some (.aload_n 1, 1) := by decide +kernel
theorem pm_a0_431 : pm_as (pm_cd pm_mm0) 431 = some (.aload_n 0, 1) := by decide +kernel
theorem pm_a0_432 : pm_as (pm_cd pm_mm0) 432 = some (.iload_n 3, 1) := by decide +kernel
theorem pm_a0_433 : pm_as (pm_cd pm_mm0) 433 = some (.iconst 1, 1) := by decide +kernel
theorem pm_a0_434 : pm_as (pm_cd pm_mm0) 434 = some (.iadd, 1) := by decide +kernel
theorem pm_a0_435 : pm_as (pm_cd pm_mm0) 435 = some (.iaload, 1) := by decide +kernel
theorem pm_a0_436 : pm_as (pm_cd pm_mm0) 436 = some (.aload_n 0, 1) := by decide +kernel
theorem pm_a0_437 : pm_as (pm_cd pm_mm0) 437 = some (.iload_n 3, 1) := by decide +kernel
theorem pm_a0_438 : pm_as (pm_cd pm_mm0) 438 = some (.iconst 2, 1) := by decide +kernel
theorem pm_a0_439 : pm_as (pm_cd pm_mm0) 439 = some (.iadd, 1) := by decide +kernel
theorem pm_a0_440 : pm_as (pm_cd pm_mm0) 440 = some (.iaload, 1) := by decide +kernel
theorem pm_a0_441 : pm_as (pm_cd pm_mm0) 441 = some (.invokevirtual 57, 3) := by decide +kernel
theorem pm_a0_444 : pm_as (pm_cd pm_mm0) 444 = some (.aload_n 2, 1) := by decide +kernel
theorem pm_a0_445 : pm_as (pm_cd pm_mm0) 445 = some (.aload_n 0, 1) := by decide +kernel
theorem pm_a0_446 : pm_as (pm_cd pm_mm0) 446 = some (.iload_n 3, 1) := by decide +kernel
theorem pm_a0_447 : pm_as (pm_cd pm_mm0) 447 = some (.iconst 1, 1) := by decide +kernel
theorem pm_a0_448 : pm_as (pm_cd pm_mm0) 448 = some (.iadd, 1) := by decide +kernel
theorem pm_a0_449 : pm_as (pm_cd pm_mm0) 449 = some (.iaload, 1) := by decide +kernel
theorem pm_a0_450 : pm_as (pm_cd pm_mm0) 450 = some (.aload_n 0, 1) := by decide +kernel
theorem pm_a0_451 : pm_as (pm_cd pm_mm0) 451 = some (.iload_n 3, 1) := by decide +kernel
theorem pm_a0_452 : pm_as (pm_cd pm_mm0) 452 = some (.iconst 2, 1) := by decide +kernel
theorem pm_a0_453 : pm_as (pm_cd pm_mm0) 453 = some (.iadd, 1) := by decide +kernel
theorem pm_a0_454 : pm_as (pm_cd pm_mm0) 454 = some (.iaload, 1) := by decide +kernel
theorem pm_a0_455 : pm_as (pm_cd pm_mm0) 455 = some (.invokevirtual 60, 3) := by decide +kernel
theorem pm_a0_458 : pm_as (pm_cd pm_mm0) 458 = some (.if_icmp .eq 321, 3) := by decide +kernel
theorem pm_a0_463 : pm_as (pm_cd pm_mm0) 463 = some (.aload_n 1, 1) := by decide +kernel
theorem pm_a0_464 : pm_as (pm_cd pm_mm0) 464 = some (.aload_n 0, 1) := by decide +kernel
theorem pm_a0_465 : pm_as (pm_cd pm_mm0) 465 = some (.iload_n 3, 1) := by decide +kernel
theorem pm_a0_466 : pm_as (pm_cd pm_mm0) 466 = some (.iconst 1, 1) := by decide +kernel
theorem pm_a0_467 : pm_as (pm_cd pm_mm0) 467 = some (.iadd, 1) := by decide +kernel
theorem pm_a0_468 : pm_as (pm_cd pm_mm0) 468 = some (.iaload, 1) := by decide +kernel
theorem pm_a0_469 : pm_as (pm_cd pm_mm0) 469 = some (.aload_n 0, 1) := by decide +kernel
theorem pm_a0_470 : pm_as (pm_cd pm_mm0) 470 = some (.iload_n 3, 1) := by decide +kernel
theorem pm_a0_471 : pm_as (pm_cd pm_mm0) 471 = some (.iconst 2, 1) := by decide +kernel
theorem pm_a0_472 : pm_as (pm_cd pm_mm0) 472 = some (.iadd, 1) := by decide +kernel
theorem pm_a0_473 : pm_as (pm_cd pm_mm0) 473 = some (.iaload, 1) := by decide +kernel
theorem pm_a0_474 : pm_as (pm_cd pm_mm0) 474 = some (.aload_n 0, 1) := by decide +kernel
theorem pm_a0_475 : pm_as (pm_cd pm_mm0) 475 = some (.iload_n 3, 1) := by decide +kernel
theorem pm_a0_476 : pm_as (pm_cd pm_mm0) 476 = some (.iconst 3, 1) := by decide +kernel
theorem pm_a0_477 : pm_as (pm_cd pm_mm0) 477 = some (.iadd, 1) := by decide +kernel
theorem pm_a0_478 : pm_as (pm_cd pm_mm0) 478 = some (.iaload, 1) := by decide +kernel
theorem pm_a0_479 : pm_as (pm_cd pm_mm0) 479 = some (.invokevirtual 61, 3) := by decide +kernel
theorem pm_a0_482 : pm_as (pm_cd pm_mm0) 482 = some (.aload_n 2, 1) := by decide +kernel
theorem pm_a0_483 : pm_as (pm_cd pm_mm0) 483 = some (.aload_n 0, 1) := by decide +kernel
theorem pm_a0_484 : pm_as (pm_cd pm_mm0) 484 = some (.iload_n 3, 1) := by decide +kernel
theorem pm_a0_485 : pm_as (pm_cd pm_mm0) 485 = some (.iconst 1, 1) := by decide +kernel
theorem pm_a0_486 : pm_as (pm_cd pm_mm0) 486 = some (.iadd, 1) := by decide +kernel
theorem pm_a0_487 : pm_as (pm_cd pm_mm0) 487 = some (.iaload, 1) := by decide +kernel
theorem pm_a0_488 : pm_as (pm_cd pm_mm0) 488 = some (.aload_n 0, 1) := by decide +kernel
theorem pm_a0_489 : pm_as (pm_cd pm_mm0) 489 = some (.iload_n 3, 1) := by decide +kernel
theorem pm_a0_490 : pm_as (pm_cd pm_mm0) 490 = some (.iconst 2, 1) := by decide +kernel
theorem pm_a0_491 : pm_as (pm_cd pm_mm0) 491 = some (.iadd, 1) := by decide +kernel
theorem pm_a0_492 : pm_as (pm_cd pm_mm0) 492 = some (.iaload, 1) := by decide +kernel
theorem pm_a0_493 : pm_as (pm_cd pm_mm0) 493 = some (.aload_n 0, 1) := by decide +kernel
theorem pm_a0_494 : pm_as (pm_cd pm_mm0) 494 = some (.iload_n 3, 1) := by decide +kernel
theorem pm_a0_495 : pm_as (pm_cd pm_mm0) 495 = some (.iconst 3, 1) := by decide +kernel
theorem pm_a0_496 : pm_as (pm_cd pm_mm0) 496 = some (.iadd, 1) := by decide +kernel
theorem pm_a0_497 : pm_as (pm_cd pm_mm0) 497 = some (.iaload, 1) := by decide +kernel
theorem pm_a0_498 : pm_as (pm_cd pm_mm0) 498 = some (.invokevirtual 65, 3) := by decide +kernel
theorem pm_a0_501 : pm_as (pm_cd pm_mm0) 501 = some (.if_icmp .eq 278, 3) := by decide +kernel
theorem pm_a0_506 : pm_as (pm_cd pm_mm0) 506 = some (.aload_n 1, 1) := by decide +kernel
theorem pm_a0_507 : pm_as (pm_cd pm_mm0) 507 = some (.aload_n 0, 1) := by decide +kernel
theorem pm_a0_508 : pm_as (pm_cd pm_mm0) 508 = some (.iload_n 3, 1) := by decide +kernel
theorem pm_a0_509 : pm_as (pm_cd pm_mm0) 509 = some (.iconst 1, 1) := by decide +kernel
theorem pm_a0_510 : pm_as (pm_cd pm_mm0) 510 = some (.iadd, 1) := by decide +kernel
theorem pm_a0_511 : pm_as (pm_cd pm_mm0) 511 = some (.iaload, 1) := by decide +kernel
theorem pm_a0_512 : pm_as (pm_cd pm_mm0) 512 = some (.invokevirtual 66, 3) := by decide +kernel
theorem pm_a0_515 : pm_as (pm_cd pm_mm0) 515 = some (.aload_n 2, 1) := by decide +kernel
theorem pm_a0_516 : pm_as (pm_cd pm_mm0) 516 = some (.aload_n 0, 1) := by decide +kernel
theorem pm_a0_517 : pm_as (pm_cd pm_mm0) 517 = some (.iload_n 3, 1) := by decide +kernel
theorem pm_a0_518 : pm_as (pm_cd pm_mm0) 518 = some (.iconst 1, 1) := by decide +kernel
theorem pm_a0_519 : pm_as (pm_cd pm_mm0) 519 = some (.iadd, 1) := by decide +kernel
theorem pm_a0_520 : pm_as (pm_cd pm_mm0) 520 = some (.iaload, 1) := by decide +kernel
theorem pm_a0_521 : pm_as (pm_cd pm_mm0) 521 = some (.invokevirtual 69, 3) := by decide +kernel
theorem pm_a0_524 : pm_as (pm_cd pm_mm0) 524 = some (.if_icmp .eq 255, 3) := by decide +kernel
theorem pm_a0_529 : pm_as (pm_cd pm_mm0) 529 = some (.aload_n 1, 1) := by decide +kernel
theorem pm_a0_530 : pm_as (pm_cd pm_mm0) 530 = some (.aload_n 0, 1) := by decide +kernel
theorem pm_a0_531 : pm_as (pm_cd pm_mm0) 531 = some (.iload_n 3, 1) := by decide +kernel
theorem pm_a0_532 : pm_as (pm_cd pm_mm0) 532 = some (.iconst 1, 1) := by decide +kernel
theorem pm_a0_533 : pm_as (pm_cd pm_mm0) 533 = some (.iadd, 1) := by decide +kernel
theorem pm_a0_534 : pm_as (pm_cd pm_mm0) 534 = some (.iaload, 1) := by decide +kernel
theorem pm_a0_535 : pm_as (pm_cd pm_mm0) 535 = some (.aload_n 0, 1) := by decide +kernel
theorem pm_a0_536 : pm_as (pm_cd pm_mm0) 536 = some (.iload_n 3, 1) := by decide +kernel
theorem pm_a0_537 : pm_as (pm_cd pm_mm0) 537 = some (.iconst 2, 1) := by decide +kernel
theorem pm_a0_538 : pm_as (pm_cd pm_mm0) 538 = some (.iadd, 1) := by decide +kernel
theorem pm_a0_539 : pm_as (pm_cd pm_mm0) 539 = some (.iaload, 1) := by decide +kernel
theorem pm_a0_540 : pm_as (pm_cd pm_mm0) 540 = some (.invokevirtual 70, 3) := by decide +kernel
theorem pm_a0_543 : pm_as (pm_cd pm_mm0) 543 = some (.aload_n 2, 1) := by decide +kernel
theorem pm_a0_544 : pm_as (pm_cd pm_mm0) 544 = some (.aload_n 0, 1) := by decide +kernel
theorem pm_a0_545 : pm_as (pm_cd pm_mm0) 545 = some (.iload_n 3, 1) := by decide +kernel
theorem pm_a0_546 : pm_as (pm_cd pm_mm0) 546 = some (.iconst 1, 1) := by decide +kernel
theorem pm_a0_547 : pm_as (pm_cd pm_mm0) 547 = some (.iadd, 1) := by decide +kernel
theorem pm_a0_548 : pm_as (pm_cd pm_mm0) 548 = some (.iaload, 1) := by decide +kernel
theorem pm_a0_549 : pm_as (pm_cd pm_mm0) 549 = some (.aload_n 0, 1) := by decide +kernel
theorem pm_a0_550 : pm_as (pm_cd pm_mm0) 550 = some (.iload_n 3, 1) := by decide +kernel
theorem pm_a0_551 : pm_as (pm_cd pm_mm0) 551 = some (.iconst 2, 1) := by decide +kernel
theorem pm_a0_552 : pm_as (pm_cd pm_mm0) 552 = some (.iadd, 1) := by decide +kernel
theorem pm_a0_553 : pm_as (pm_cd pm_mm0) 553 = some (.iaload, 1) := by decide +kernel
theorem pm_a0_554 : pm_as (pm_cd pm_mm0) 554 = some (.invokevirtual 73, 3) := by decide +kernel
theorem pm_a0_557 : pm_as (pm_cd pm_mm0) 557 = some (.if_icmp .eq 222, 3) := by decide +kernel
theorem pm_a0_562 : pm_as (pm_cd pm_mm0) 562 = some (.aload_n 1, 1) := by decide +kernel
theorem pm_a0_563 : pm_as (pm_cd pm_mm0) 563 = some (.aload_n 0, 1) := by decide +kernel
theorem pm_a0_564 : pm_as (pm_cd pm_mm0) 564 = some (.iload_n 3, 1) := by decide +kernel
theorem pm_a0_565 : pm_as (pm_cd pm_mm0) 565 = some (.iconst 1, 1) := by decide +kernel
theorem pm_a0_566 : pm_as (pm_cd pm_mm0) 566 = some (.iadd, 1) := by decide +kernel
theorem pm_a0_567 : pm_as (pm_cd pm_mm0) 567 = some (.iaload, 1) := by decide +kernel
theorem pm_a0_568 : pm_as (pm_cd pm_mm0) 568 = some (.invokevirtual 74, 3) := by decide +kernel
theorem pm_a0_571 : pm_as (pm_cd pm_mm0) 571 = some (.aload_n 2, 1) := by decide +kernel
theorem pm_a0_572 : pm_as (pm_cd pm_mm0) 572 = some (.aload_n 0, 1) := by decide +kernel
theorem pm_a0_573 : pm_as (pm_cd pm_mm0) 573 = some (.iload_n 3, 1) := by decide +kernel
theorem pm_a0_574 : pm_as (pm_cd pm_mm0) 574 = some (.iconst 1, 1) := by decide +kernel
theorem pm_a0_575 : pm_as (pm_cd pm_mm0) 575 = some (.iadd, 1) := by decide +kernel
theorem pm_a0_576 : pm_as (pm_cd pm_mm0) 576 = some (.iaload, 1) := by decide +kernel
theorem pm_a0_577 : pm_as (pm_cd pm_mm0) 577 = some (.invokevirtual 77, 3) := by decide +kernel
theorem pm_a0_580 : pm_as (pm_cd pm_mm0) 580 = some (.if_icmp .eq 199, 3) := by decide +kernel
theorem pm_a0_585 : pm_as (pm_cd pm_mm0) 585 = some (.aload_n 1, 1) := by decide +kernel
theorem pm_a0_586 : pm_as (pm_cd pm_mm0) 586 = some (.aload_n 0, 1) := by decide +kernel
theorem pm_a0_587 : pm_as (pm_cd pm_mm0) 587 = some (.iload_n 3, 1) := by decide +kernel
theorem pm_a0_588 : pm_as (pm_cd pm_mm0) 588 = some (.iconst 1, 1) := by decide +kernel
theorem pm_a0_589 : pm_as (pm_cd pm_mm0) 589 = some (.iadd, 1) := by decide +kernel
theorem pm_a0_590 : pm_as (pm_cd pm_mm0) 590 = some (.iaload, 1) := by decide +kernel
theorem pm_a0_591 : pm_as (pm_cd pm_mm0) 591 = some (.invokevirtual 78, 3) := by decide +kernel
theorem pm_a0_594 : pm_as (pm_cd pm_mm0) 594 = some (.aload_n 2, 1) := by decide +kernel
theorem pm_a0_595 : pm_as (pm_cd pm_mm0) 595 = some (.aload_n 0, 1) := by decide +kernel
theorem pm_a0_596 : pm_as (pm_cd pm_mm0) 596 = some (.iload_n 3, 1) := by decide +kernel
theorem pm_a0_597 : pm_as (pm_cd pm_mm0) 597 = some (.iconst 1, 1) := by decide +kernel
theorem pm_a0_598 : pm_as (pm_cd pm_mm0) 598 = some (.iadd, 1) := by decide +kernel
theorem pm_a0_599 : pm_as (pm_cd pm_mm0) 599 = some (.iaload, 1) := by decide +kernel
theorem pm_a0_600 : pm_as (pm_cd pm_mm0) 600 = some (.invokevirtual 81, 3) := by decide +kernel
theorem pm_a0_603 : pm_as (pm_cd pm_mm0) 603 = some (.if_icmp .eq 176, 3) := by decide +kernel
theorem pm_a0_608 : pm_as (pm_cd pm_mm0) 608 = some (.aload_n 1, 1) := by decide +kernel
theorem pm_a0_609 : pm_as (pm_cd pm_mm0) 609 = some (.aload_n 0, 1) := by decide +kernel
theorem pm_a0_610 : pm_as (pm_cd pm_mm0) 610 = some (.iload_n 3, 1) := by decide +kernel
theorem pm_a0_611 : pm_as (pm_cd pm_mm0) 611 = some (.iconst 1, 1) := by decide +kernel
theorem pm_a0_612 : pm_as (pm_cd pm_mm0) 612 = some (.iadd, 1) := by decide +kernel
theorem pm_a0_613 : pm_as (pm_cd pm_mm0) 613 = some (.iaload, 1) := by decide +kernel
theorem pm_a0_614 : pm_as (pm_cd pm_mm0) 614 = some (.invokevirtual 82, 3) := by decide +kernel
theorem pm_a0_617 : pm_as (pm_cd pm_mm0) 617 = some (.aload_n 2, 1) := by decide +kernel
theorem pm_a0_618 : pm_as (pm_cd pm_mm0) 618 = some (.aload_n 0, 1) := by decide +kernel
theorem pm_a0_619 : pm_as (pm_cd pm_mm0) 619 = some (.iload_n 3, 1) := by decide +kernel
theorem pm_a0_620 : pm_as (pm_cd pm_mm0) 620 = some (.iconst 1, 1) := by decide +kernel
theorem pm_a0_621 : pm_as (pm_cd pm_mm0) 621 = some (.iadd, 1) := by decide +kernel
theorem pm_a0_622 : pm_as (pm_cd pm_mm0) 622 = some (.iaload, 1) := by decide +kernel
theorem pm_a0_623 : pm_as (pm_cd pm_mm0) 623 = some (.invokevirtual 85, 3) := by decide +kernel
theorem pm_a0_626 : pm_as (pm_cd pm_mm0) 626 = some (.if_icmp .eq 153, 3) := by decide +kernel
theorem pm_a0_631 : pm_as (pm_cd pm_mm0) 631 = some (.aload_n 1, 1) := by decide +kernel
theorem pm_a0_632 : pm_as (pm_cd pm_mm0) 632 = some (.aload_n 0, 1) := by decide +kernel
theorem pm_a0_633 : pm_as (pm_cd pm_mm0) 633 = some (.iload_n 3, 1) := by decide +kernel
theorem pm_a0_634 : pm_as (pm_cd pm_mm0) 634 = some (.iconst 1, 1) := by decide +kernel
theorem pm_a0_635 : pm_as (pm_cd pm_mm0) 635 = some (.iadd, 1) := by decide +kernel
theorem pm_a0_636 : pm_as (pm_cd pm_mm0) 636 = some (.iaload, 1) := by decide +kernel
theorem pm_a0_637 : pm_as (pm_cd pm_mm0) 637 = some (.aload_n 0, 1) := by decide +kernel
theorem pm_a0_638 : pm_as (pm_cd pm_mm0) 638 = some (.iload_n 3, 1) := by decide +kernel
theorem pm_a0_639 : pm_as (pm_cd pm_mm0) 639 = some (.iconst 2, 1) := by decide +kernel
theorem pm_a0_640 : pm_as (pm_cd pm_mm0) 640 = some (.iadd, 1) := by decide +kernel
theorem pm_a0_641 : pm_as (pm_cd pm_mm0) 641 = some (.iaload, 1) := by decide +kernel
theorem pm_a0_642 : pm_as (pm_cd pm_mm0) 642 = some (.invokevirtual 86, 3) := by decide +kernel
theorem pm_a0_645 : pm_as (pm_cd pm_mm0) 645 = some (.aload_n 2, 1) := by decide +kernel
theorem pm_a0_646 : pm_as (pm_cd pm_mm0) 646 = some (.aload_n 0, 1) := by decide +kernel
theorem pm_a0_647 : pm_as (pm_cd pm_mm0) 647 = some (.iload_n 3, 1) := by decide +kernel
theorem pm_a0_648 : pm_as (pm_cd pm_mm0) 648 = some (.iconst 1, 1) := by decide +kernel
theorem pm_a0_649 : pm_as (pm_cd pm_mm0) 649 = some (.iadd, 1) := by decide +kernel
theorem pm_a0_650 : pm_as (pm_cd pm_mm0) 650 = some (.iaload, 1) := by decide +kernel
theorem pm_a0_651 : pm_as (pm_cd pm_mm0) 651 = some (.aload_n 0, 1) := by decide +kernel
theorem pm_a0_652 : pm_as (pm_cd pm_mm0) 652 = some (.iload_n 3, 1) := by decide +kernel
theorem pm_a0_653 : pm_as (pm_cd pm_mm0) 653 = some (.iconst 2, 1) := by decide +kernel
theorem pm_a0_654 : pm_as (pm_cd pm_mm0) 654 = some (.iadd, 1) := by decide +kernel
theorem pm_a0_655 : pm_as (pm_cd pm_mm0) 655 = some (.iaload, 1) := by decide +kernel
theorem pm_a0_656 : pm_as (pm_cd pm_mm0) 656 = some (.invokevirtual 89, 3) := by decide +kernel
theorem pm_a0_659 : pm_as (pm_cd pm_mm0) 659 = some (.if_icmp .eq 120, 3) := by decide +kernel
theorem pm_a0_664 : pm_as (pm_cd pm_mm0) 664 = some (.aload_n 1, 1) := by decide +kernel
theorem pm_a0_665 : pm_as (pm_cd pm_mm0) 665 = some (.aload_n 0, 1) := by decide +kernel
theorem pm_a0_666 : pm_as (pm_cd pm_mm0) 666 = some (.iload_n 3, 1) := by decide +kernel
theorem pm_a0_667 : pm_as (pm_cd pm_mm0) 667 = some (.iconst 1, 1) := by decide +kernel
theorem pm_a0_668 : pm_as (pm_cd pm_mm0) 668 = some (.iadd, 1) := by decide +kernel
theorem pm_a0_669 : pm_as (pm_cd pm_mm0) 669 = some (.iaload, 1) := by decide +kernel
theorem pm_a0_670 : pm_as (pm_cd pm_mm0) 670 = some (.invokevirtual 90, 3) := by decide +kernel
theorem pm_a0_673 : pm_as (pm_cd pm_mm0) 673 = some (.aload_n 2, 1) := by decide +kernel
theorem pm_a0_674 : pm_as (pm_cd pm_mm0) 674 = some (.aload_n 0, 1) := by decide +kernel
theorem pm_a0_675 : pm_as (pm_cd pm_mm0) 675 = some (.iload_n 3, 1) := by decide +kernel
theorem pm_a0_676 : pm_as (pm_cd pm_mm0) 676 = some (.iconst 1, 1) := by decide +kernel
theorem pm_a0_677 : pm_as (pm_cd pm_mm0) 677 = some (.iadd, 1) := by decide +kernel
theorem pm_a0_678 : pm_as (pm_cd pm_mm0) 678 = some (.iaload, 1) := by decide +kernel
theorem pm_a0_679 : pm_as (pm_cd pm_mm0) 679 = some (.invokevirtual 93, 3) := by decide +kernel
theorem pm_a0_682 : pm_as (pm_cd pm_mm0) 682 = some (.if_icmp .eq 97, 3) := by decide +kernel
theorem pm_a0_687 : pm_as (pm_cd pm_mm0) 687 = some (.aload_n 1, 1) := by decide +kernel
theorem pm_a0_688 : pm_as (pm_cd pm_mm0) 688 = some (.aload_n 0, 1) := by decide +kernel
theorem pm_a0_689 : pm_as (pm_cd pm_mm0) 689 = some (.iload_n 3, 1) := by decide +kernel
theorem pm_a0_690 : pm_as (pm_cd pm_mm0) 690 = some (.iconst 1, 1) := by decide +kernel
theorem pm_a0_691 : pm_as (pm_cd pm_mm0) 691 = some (.iadd, 1) := by decide +kernel
theorem pm_a0_692 : pm_as (pm_cd pm_mm0) 692 = some (.iaload, 1) := by decide +kernel
theorem pm_a0_693 : pm_as (pm_cd pm_mm0) 693 = some (.invokevirtual 94, 3) := by decide +kernel
theorem pm_a0_696 : pm_as (pm_cd pm_mm0) 696 = some (.aload_n 2, 1) := by decide +kernel
theorem pm_a0_697 : pm_as (pm_cd pm_mm0) 697 = some (.aload_n 0, 1) := by decide +kernel
theorem pm_a0_698 : pm_as (pm_cd pm_mm0) 698 = some (.iload_n 3, 1) := by decide +kernel
theorem pm_a0_699 : pm_as (pm_cd pm_mm0) 699 = some (.iconst 1, 1) := by decide +kernel
theorem pm_a0_700 : pm_as (pm_cd pm_mm0) 700 = some (.iadd, 1) := by decide +kernel
theorem pm_a0_701 : pm_as (pm_cd pm_mm0) 701 = some (.iaload, 1) := by decide +kernel
theorem pm_a0_702 : pm_as (pm_cd pm_mm0) 702 = some (.invokevirtual 97, 3) := by decide +kernel
theorem pm_a0_705 : pm_as (pm_cd pm_mm0) 705 = some (.if_icmp .eq 74, 3) := by decide +kernel
theorem pm_a0_710 : pm_as (pm_cd pm_mm0) 710 = some (.aload_n 1, 1) := by decide +kernel
theorem pm_a0_711 : pm_as (pm_cd pm_mm0) 711 = some (.aload_n 0, 1) := by decide +kernel
theorem pm_a0_712 : pm_as (pm_cd pm_mm0) 712 = some (.iload_n 3, 1) := by decide +kernel
theorem pm_a0_713 : pm_as (pm_cd pm_mm0) 713 = some (.iconst 1, 1) := by decide +kernel
theorem pm_a0_714 : pm_as (pm_cd pm_mm0) 714 = some (.iadd, 1) := by decide +kernel
theorem pm_a0_715 : pm_as (pm_cd pm_mm0) 715 = some (.iaload, 1) := by decide +kernel
theorem pm_a0_716 : pm_as (pm_cd pm_mm0) 716 = some (.aload_n 0, 1) := by decide +kernel
theorem pm_a0_717 : pm_as (pm_cd pm_mm0) 717 = some (.iload_n 3, 1) := by decide +kernel
theorem pm_a0_718 : pm_as (pm_cd pm_mm0) 718 = some (.iconst 2, 1) := by decide +kernel
theorem pm_a0_719 : pm_as (pm_cd pm_mm0) 719 = some (.iadd, 1) := by decide +kernel
theorem pm_a0_720 : pm_as (pm_cd pm_mm0) 720 = some (.iaload, 1) := by decide +kernel
theorem pm_a0_721 : pm_as (pm_cd pm_mm0) 721 = some (.invokevirtual 98, 3) := by decide +kernel
theorem pm_a0_724 : pm_as (pm_cd pm_mm0) 724 = some (.aload_n 2, 1) := by decide +kernel
theorem pm_a0_725 : pm_as (pm_cd pm_mm0) 725 = some (.aload_n 0, 1) := by decide +kernel
theorem pm_a0_726 : pm_as (pm_cd pm_mm0) 726 = some (.iload_n 3, 1) := by decide +kernel
theorem pm_a0_727 : pm_as (pm_cd pm_mm0) 727 = some (.iconst 1, 1) := by decide +kernel
theorem pm_a0_728 : pm_as (pm_cd pm_mm0) 728 = some (.iadd, 1) := by decide +kernel
theorem pm_a0_729 : pm_as (pm_cd pm_mm0) 729 = some (.iaload, 1) := by decide +kernel
theorem pm_a0_730 : pm_as (pm_cd pm_mm0) 730 = some (.aload_n 0, 1) := by decide +kernel
theorem pm_a0_731 : pm_as (pm_cd pm_mm0) 731 = some (.iload_n 3, 1) := by decide +kernel
theorem pm_a0_732 : pm_as (pm_cd pm_mm0) 732 = some (.iconst 2, 1) := by decide +kernel
theorem pm_a0_733 : pm_as (pm_cd pm_mm0) 733 = some (.iadd, 1) := by decide +kernel
theorem pm_a0_734 : pm_as (pm_cd pm_mm0) 734 = some (.iaload, 1) := by decide +kernel
theorem pm_a0_735 : pm_as (pm_cd pm_mm0) 735 = some (.invokevirtual 101, 3) := by decide +kernel
theorem pm_a0_738 : pm_as (pm_cd pm_mm0) 738 = some (.if_icmp .eq 41, 3) := by decide +kernel
theorem pm_a0_743 : pm_as (pm_cd pm_mm0) 743 = some (.aload_n 1, 1) := by decide +kernel
theorem pm_a0_744 : pm_as (pm_cd pm_mm0) 744 = some (.invokevirtual 102, 3) := by decide +kernel
theorem pm_a0_747 : pm_as (pm_cd pm_mm0) 747 = some (.aload_n 2, 1) := by decide +kernel
theorem pm_a0_748 : pm_as (pm_cd pm_mm0) 748 = some (.invokevirtual 105, 3) := by decide +kernel
theorem pm_a0_751 : pm_as (pm_cd pm_mm0) 751 = some (.if_icmp .eq 28, 3) := by decide +kernel
theorem pm_a0_756 : pm_as (pm_cd pm_mm0) 756 = some (.aload_n 1, 1) := by decide +kernel
theorem pm_a0_757 : pm_as (pm_cd pm_mm0) 757 = some (.aload_n 0, 1) := by decide +kernel
theorem pm_a0_758 : pm_as (pm_cd pm_mm0) 758 = some (.iload_n 3, 1) := by decide +kernel
theorem pm_a0_759 : pm_as (pm_cd pm_mm0) 759 = some (.iconst 1, 1) := by decide +kernel
theorem pm_a0_760 : pm_as (pm_cd pm_mm0) 760 = some (.iadd, 1) := by decide +kernel
theorem pm_a0_761 : pm_as (pm_cd pm_mm0) 761 = some (.iaload, 1) := by decide +kernel
theorem pm_a0_762 : pm_as (pm_cd pm_mm0) 762 = some (.invokevirtual 106, 3) := by decide +kernel
theorem pm_a0_765 : pm_as (pm_cd pm_mm0) 765 = some (.aload_n 2, 1) := by decide +kernel
theorem pm_a0_766 : pm_as (pm_cd pm_mm0) 766 = some (.aload_n 0, 1) := by decide +kernel
theorem pm_a0_767 : pm_as (pm_cd pm_mm0) 767 = some (.iload_n 3, 1) := by decide +kernel
theorem pm_a0_768 : pm_as (pm_cd pm_mm0) 768 = some (.iconst 1, 1) := by decide +kernel
theorem pm_a0_769 : pm_as (pm_cd pm_mm0) 769 = some (.iadd, 1) := by decide +kernel
theorem pm_a0_770 : pm_as (pm_cd pm_mm0) 770 = some (.iaload, 1) := by decide +kernel
theorem pm_a0_771 : pm_as (pm_cd pm_mm0) 771 = some (.invokevirtual 109, 3) := by decide +kernel
theorem pm_a0_774 : pm_as (pm_cd pm_mm0) 774 = some (.if_icmp .eq 5, 3) := by decide +kernel
theorem pm_a0_779 : pm_as (pm_cd pm_mm0) 779 = some (.iinc 3 6, 3) := by decide +kernel
theorem pm_a0_782 : pm_as (pm_cd pm_mm0) 782 = some (.goto (-764), 3) := by decide +kernel
theorem pm_a0_785 : pm_as (pm_cd pm_mm0) 785 = some (.iconst 1, 1) := by decide +kernel
theorem pm_a0_786 : pm_as (pm_cd pm_mm0) 786 = some (.ireturn, 1) := by decide +kernel
theorem pm_a1_0 : pm_as (pm_cd pm_mm1) 0 = some (.aload_n 0, 1) := by decide +kernel
theorem pm_a1_1 : pm_as (pm_cd pm_mm1) 1 = some (.invokespecial 1, 3) := by decide +kernel
theorem pm_a1_4 : pm_as (pm_cd pm_mm1) 4 = some (.aload_n 0, 1) := by decide +kernel
theorem pm_a1_5 : pm_as (pm_cd pm_mm1) 5 = some (.new 7, 3) := by decide +kernel
theorem pm_a1_8 : pm_as (pm_cd pm_mm1) 8 = some (.dup, 1) := by decide +kernel
theorem pm_a1_9 : pm_as (pm_cd pm_mm1) 9 = some (.invokespecial 9, 3) := by decide +kernel
theorem pm_a1_12 : pm_as (pm_cd pm_mm1) 12 = some (.putfield 10, 3) := by decide +kernel
theorem pm_a1_15 : pm_as (pm_cd pm_mm1) 15 = some (.aload_n 0, 1) := by decide +kernel
theorem pm_a1_16 : pm_as (pm_cd pm_mm1) 16 = some (.bipush 32, 2) := by decide +kernel
theorem pm_a1_18 : pm_as (pm_cd pm_mm1) 18 = some (.anewarray 16, 3) := by decide +kernel
theorem pm_a1_21 : pm_as (pm_cd pm_mm1) 21 = some (.putfield 18, 3) := by decide +kernel
theorem pm_a1_24 : pm_as (pm_cd pm_mm1) 24 = some (.aload_n 0, 1) := by decide +kernel
theorem pm_a1_25 : pm_as (pm_cd pm_mm1) 25 = some (.new 16, 3) := by decide +kernel
theorem pm_a1_28 : pm_as (pm_cd pm_mm1) 28 = some (.dup, 1) := by decide +kernel
theorem pm_a1_29 : pm_as (pm_cd pm_mm1) 29 = some (.sipush 500, 3) := by decide +kernel
theorem pm_a1_32 : pm_as (pm_cd pm_mm1) 32 = some (.invokespecial 22, 3) := by decide +kernel
theorem pm_a1_35 : pm_as (pm_cd pm_mm1) 35 = some (.putfield 25, 3) := by decide +kernel
theorem pm_a1_38 : pm_as (pm_cd pm_mm1) 38 = some (.aload_n 0, 1) := by decide +kernel
theorem pm_a1_39 : pm_as (pm_cd pm_mm1) 39 = some (.new 29, 3) := by decide +kernel
theorem pm_a1_42 : pm_as (pm_cd pm_mm1) 42 = some (.dup, 1) := by decide +kernel
theorem pm_a1_43 : pm_as (pm_cd pm_mm1) 43 = some (.invokespecial 31, 3) := by decide +kernel
theorem pm_a1_46 : pm_as (pm_cd pm_mm1) 46 = some (.putfield 32, 3) := by decide +kernel
theorem pm_a1_49 : pm_as (pm_cd pm_mm1) 49 = some (.aload_n 0, 1) := by decide +kernel
theorem pm_a1_50 : pm_as (pm_cd pm_mm1) 50 = some (.new 36, 3) := by decide +kernel
theorem pm_a1_53 : pm_as (pm_cd pm_mm1) 53 = some (.dup, 1) := by decide +kernel
theorem pm_a1_54 : pm_as (pm_cd pm_mm1) 54 = some (.aload_n 0, 1) := by decide +kernel
theorem pm_a1_55 : pm_as (pm_cd pm_mm1) 55 = some (.getfield 10, 3) := by decide +kernel
theorem pm_a1_58 : pm_as (pm_cd pm_mm1) 58 = some (.invokespecial 38, 3) := by decide +kernel
theorem pm_a1_61 : pm_as (pm_cd pm_mm1) 61 = some (.putfield 41, 3) := by decide +kernel
theorem pm_a1_64 : pm_as (pm_cd pm_mm1) 64 = some (.aload_n 0, 1) := by decide +kernel
theorem pm_a1_65 : pm_as (pm_cd pm_mm1) 65 = some (.new 45, 3) := by decide +kernel
theorem pm_a1_68 : pm_as (pm_cd pm_mm1) 68 = some (.dup, 1) := by decide +kernel
theorem pm_a1_69 : pm_as (pm_cd pm_mm1) 69 = some (.invokespecial 47, 3) := by decide +kernel
theorem pm_a1_72 : pm_as (pm_cd pm_mm1) 72 = some (.putfield 48, 3) := by decide +kernel
theorem pm_a1_75 : pm_as (pm_cd pm_mm1) 75 = some (.aload_n 0, 1) := by decide +kernel
theorem pm_a1_76 : pm_as (pm_cd pm_mm1) 76 = some (.new 52, 3) := by decide +kernel
theorem pm_a1_79 : pm_as (pm_cd pm_mm1) 79 = some (.dup, 1) := by decide +kernel
theorem pm_a1_80 : pm_as (pm_cd pm_mm1) 80 = some (.aload_n 0, 1) := by decide +kernel
theorem pm_a1_81 : pm_as (pm_cd pm_mm1) 81 = some (.getfield 32, 3) := by decide +kernel
theorem pm_a1_84 : pm_as (pm_cd pm_mm1) 84 = some (.invokespecial 54, 3) := by decide +kernel
theorem pm_a1_87 : pm_as (pm_cd pm_mm1) 87 = some (.putfield 57, 3) := by decide +kernel
theorem pm_a1_90 : pm_as (pm_cd pm_mm1) 90 = some (.return_, 1) := by decide +kernel
theorem pm_a2_0 : pm_as (pm_cd pm_mm2) 0 = some (.aload_n 0, 1) := by decide +kernel
theorem pm_a2_1 : pm_as (pm_cd pm_mm2) 1 = some (.invokespecial 3, 3) := by decide +kernel
theorem pm_a2_4 : pm_as (pm_cd pm_mm2) 4 = some (.aload_n 0, 1) := by decide +kernel
theorem pm_a2_5 : pm_as (pm_cd pm_mm2) 5 = some (.sipush 600, 3) := by decide +kernel
theorem pm_a2_8 : pm_as (pm_cd pm_mm2) 8 = some (.newarray .int, 2) := by decide +kernel
theorem pm_a2_10 : pm_as (pm_cd pm_mm2) 10 = some (.putfield 9, 3) := by decide +kernel
theorem pm_a2_13 : pm_as (pm_cd pm_mm2) 13 = some (.return_, 1) := by decide +kernel
theorem pm_a3_0 : pm_as (pm_cd pm_mm3) 0 = some (.aload_n 0, 1) := by decide +kernel
theorem pm_a3_1 : pm_as (pm_cd pm_mm3) 1 = some (.invokespecial 3, 3) := by decide +kernel
theorem pm_a3_4 : pm_as (pm_cd pm_mm3) 4 = some (.aload_n 0, 1) := by decide +kernel
theorem pm_a3_5 : pm_as (pm_cd pm_mm3) 5 = some (.iload_n 1, 1) := by decide +kernel
theorem pm_a3_6 : pm_as (pm_cd pm_mm3) 6 = some (.iconst 0, 1) := by decide +kernel
theorem pm_a3_7 : pm_as (pm_cd pm_mm3) 7 = some (.invokestatic 9, 3) := by decide +kernel
theorem pm_a3_10 : pm_as (pm_cd pm_mm3) 10 = some (.newarray .int, 2) := by decide +kernel
theorem pm_a3_12 : pm_as (pm_cd pm_mm3) 12 = some (.putfield 15, 3) := by decide +kernel
theorem pm_a3_15 : pm_as (pm_cd pm_mm3) 15 = some (.return_, 1) := by decide +kernel
theorem pm_a4_0 : pm_as (pm_cd pm_mm4) 0 = some (.aload_n 0, 1) := by decide +kernel
theorem pm_a4_1 : pm_as (pm_cd pm_mm4) 1 = some (.invokespecial 3, 3) := by decide +kernel
theorem pm_a4_4 : pm_as (pm_cd pm_mm4) 4 = some (.aload_n 0, 1) := by decide +kernel
theorem pm_a4_5 : pm_as (pm_cd pm_mm4) 5 = some (.sipush 502, 3) := by decide +kernel
theorem pm_a4_8 : pm_as (pm_cd pm_mm4) 8 = some (.newarray .int, 2) := by decide +kernel
theorem pm_a4_10 : pm_as (pm_cd pm_mm4) 10 = some (.putfield 11, 3) := by decide +kernel
theorem pm_a4_13 : pm_as (pm_cd pm_mm4) 13 = some (.aload_n 0, 1) := by decide +kernel
theorem pm_a4_14 : pm_as (pm_cd pm_mm4) 14 = some (.sipush 502, 3) := by decide +kernel
theorem pm_a4_17 : pm_as (pm_cd pm_mm4) 17 = some (.newarray .int, 2) := by decide +kernel
theorem pm_a4_19 : pm_as (pm_cd pm_mm4) 19 = some (.putfield 17, 3) := by decide +kernel
theorem pm_a4_22 : pm_as (pm_cd pm_mm4) 22 = some (.return_, 1) := by decide +kernel
theorem pm_a5_0 : pm_as (pm_cd pm_mm5) 0 = some (.aload_n 0, 1) := by decide +kernel
theorem pm_a5_1 : pm_as (pm_cd pm_mm5) 1 = some (.invokespecial 3, 3) := by decide +kernel
theorem pm_a5_4 : pm_as (pm_cd pm_mm5) 4 = some (.aload_n 0, 1) := by decide +kernel
theorem pm_a5_5 : pm_as (pm_cd pm_mm5) 5 = some (.sipush 601, 3) := by decide +kernel
theorem pm_a5_8 : pm_as (pm_cd pm_mm5) 8 = some (.newarray .int, 2) := by decide +kernel
theorem pm_a5_10 : pm_as (pm_cd pm_mm5) 10 = some (.putfield 9, 3) := by decide +kernel
theorem pm_a5_13 : pm_as (pm_cd pm_mm5) 13 = some (.aload_n 0, 1) := by decide +kernel
theorem pm_a5_14 : pm_as (pm_cd pm_mm5) 14 = some (.bipush 40, 2) := by decide +kernel
theorem pm_a5_16 : pm_as (pm_cd pm_mm5) 16 = some (.newarray .int, 2) := by decide +kernel
theorem pm_a5_18 : pm_as (pm_cd pm_mm5) 18 = some (.putfield 15, 3) := by decide +kernel
theorem pm_a5_21 : pm_as (pm_cd pm_mm5) 21 = some (.aload_n 0, 1) := by decide +kernel
theorem pm_a5_22 : pm_as (pm_cd pm_mm5) 22 = some (.bipush 40, 2) := by decide +kernel
theorem pm_a5_24 : pm_as (pm_cd pm_mm5) 24 = some (.newarray .int, 2) := by decide +kernel
theorem pm_a5_26 : pm_as (pm_cd pm_mm5) 26 = some (.putfield 18, 3) := by decide +kernel
theorem pm_a5_29 : pm_as (pm_cd pm_mm5) 29 = some (.aload_n 0, 1) := by decide +kernel
theorem pm_a5_30 : pm_as (pm_cd pm_mm5) 30 = some (.aload_n 1, 1) := by decide +kernel
theorem pm_a5_31 : pm_as (pm_cd pm_mm5) 31 = some (.putfield 21, 3) := by decide +kernel
theorem pm_a5_34 : pm_as (pm_cd pm_mm5) 34 = some (.return_, 1) := by decide +kernel
theorem pm_a6_0 : pm_as (pm_cd pm_mm6) 0 = some (.aload_n 0, 1) := by decide +kernel
theorem pm_a6_1 : pm_as (pm_cd pm_mm6) 1 = some (.invokespecial 3, 3) := by decide +kernel
theorem pm_a6_4 : pm_as (pm_cd pm_mm6) 4 = some (.aload_n 0, 1) := by decide +kernel
theorem pm_a6_5 : pm_as (pm_cd pm_mm6) 5 = some (.sipush 500, 3) := by decide +kernel
theorem pm_a6_8 : pm_as (pm_cd pm_mm6) 8 = some (.newarray .int, 2) := by decide +kernel
theorem pm_a6_10 : pm_as (pm_cd pm_mm6) 10 = some (.putfield 9, 3) := by decide +kernel
theorem pm_a6_13 : pm_as (pm_cd pm_mm6) 13 = some (.return_, 1) := by decide +kernel
theorem pm_a7_0 : pm_as (pm_cd pm_mm7) 0 = some (.aload_n 0, 1) := by decide +kernel
theorem pm_a7_1 : pm_as (pm_cd pm_mm7) 1 = some (.invokespecial 3, 3) := by decide +kernel
theorem pm_a7_4 : pm_as (pm_cd pm_mm7) 4 = some (.aload_n 0, 1) := by decide +kernel
theorem pm_a7_5 : pm_as (pm_cd pm_mm7) 5 = some (.new 9, 3) := by decide +kernel
theorem pm_a7_8 : pm_as (pm_cd pm_mm7) 8 = some (.dup, 1) := by decide +kernel
theorem pm_a7_9 : pm_as (pm_cd pm_mm7) 9 = some (.sipush 500, 3) := by decide +kernel
theorem pm_a7_12 : pm_as (pm_cd pm_mm7) 12 = some (.invokespecial 11, 3) := by decide +kernel
theorem pm_a7_15 : pm_as (pm_cd pm_mm7) 15 = some (.putfield 14, 3) := by decide +kernel
theorem pm_a7_18 : pm_as (pm_cd pm_mm7) 18 = some (.aload_n 0, 1) := by decide +kernel
theorem pm_a7_19 : pm_as (pm_cd pm_mm7) 19 = some (.aload_n 1, 1) := by decide +kernel
theorem pm_a7_20 : pm_as (pm_cd pm_mm7) 20 = some (.putfield 20, 3) := by decide +kernel
theorem pm_a7_23 : pm_as (pm_cd pm_mm7) 23 = some (.return_, 1) := by decide +kernel
theorem pm_a8_0 : pm_as (pm_cd pm_mm8) 0 = some (.aload_n 0, 1) := by decide +kernel
theorem pm_a8_1 : pm_as (pm_cd pm_mm8) 1 = some (.getfield 10, 3) := by decide +kernel
theorem pm_a8_4 : pm_as (pm_cd pm_mm8) 4 = some (.getfield 61, 3) := by decide +kernel
theorem pm_a8_7 : pm_as (pm_cd pm_mm8) 7 = some (.bipush 20, 2) := by decide +kernel
theorem pm_a8_9 : pm_as (pm_cd pm_mm8) 9 = some (.iadd, 1) := by decide +kernel
theorem pm_a8_10 : pm_as (pm_cd pm_mm8) 10 = some (.sipush 600, 3) := by decide +kernel
theorem pm_a8_13 : pm_as (pm_cd pm_mm8) 13 = some (.if_icmp .le 6, 3) := by decide +kernel
theorem pm_a8_19 : pm_as (pm_cd pm_mm8) 19 = some (.aload_n 0, 1) := by decide +kernel
theorem pm_a8_20 : pm_as (pm_cd pm_mm8) 20 = some (.getfield 10, 3) := by decide +kernel
theorem pm_a8_23 : pm_as (pm_cd pm_mm8) 23 = some (.iload_n 1, 1) := by decide +kernel
theorem pm_a8_24 : pm_as (pm_cd pm_mm8) 24 = some (.invokevirtual 65, 3) := by decide +kernel
theorem pm_a8_27 : pm_as (pm_cd pm_mm8) 27 = some (.aload_n 0, 1) := by decide +kernel
theorem pm_a8_28 : pm_as (pm_cd pm_mm8) 28 = some (.getfield 10, 3) := by decide +kernel
theorem pm_a8_31 : pm_as (pm_cd pm_mm8) 31 = some (.iload_n 2, 1) := by decide +kernel
theorem pm_a8_32 : pm_as (pm_cd pm_mm8) 32 = some (.invokevirtual 65, 3) := by decide +kernel
theorem pm_a8_35 : pm_as (pm_cd pm_mm8) 35 = some (.aload_n 0, 1) := by decide +kernel
theorem pm_a8_36 : pm_as (pm_cd pm_mm8) 36 = some (.getfield 10, 3) := by decide +kernel
theorem pm_a8_39 : pm_as (pm_cd pm_mm8) 39 = some (.iload_n 3, 1) := by decide +kernel
theorem pm_a8_40 : pm_as (pm_cd pm_mm8) 40 = some (.invokevirtual 65, 3) := by decide +kernel
theorem pm_a8_43 : pm_as (pm_cd pm_mm8) 43 = some (.aload_n 0, 1) := by decide +kernel
theorem pm_a8_44 : pm_as (pm_cd pm_mm8) 44 = some (.getfield 10, 3) := by decide +kernel
theorem pm_a8_47 : pm_as (pm_cd pm_mm8) 47 = some (.iload 4, 2) := by decide +kernel
theorem pm_a8_49 : pm_as (pm_cd pm_mm8) 49 = some (.invokevirtual 65, 3) := by decide +kernel
theorem pm_a8_52 : pm_as (pm_cd pm_mm8) 52 = some (.aload_n 0, 1) := by decide +kernel
theorem pm_a8_53 : pm_as (pm_cd pm_mm8) 53 = some (.getfield 10, 3) := by decide +kernel
theorem pm_a8_56 : pm_as (pm_cd pm_mm8) 56 = some (.iload 5, 2) := by decide +kernel
theorem pm_a8_58 : pm_as (pm_cd pm_mm8) 58 = some (.invokevirtual 65, 3) := by decide +kernel
theorem pm_a8_61 : pm_as (pm_cd pm_mm8) 61 = some (.aload_n 0, 1) := by decide +kernel
theorem pm_a8_62 : pm_as (pm_cd pm_mm8) 62 = some (.getfield 10, 3) := by decide +kernel
theorem pm_a8_65 : pm_as (pm_cd pm_mm8) 65 = some (.getfield 61, 3) := by decide +kernel
theorem pm_a8_68 : pm_as (pm_cd pm_mm8) 68 = some (.ireturn, 1) := by decide +kernel
theorem pm_a9_0 : pm_as (pm_cd pm_mm9) 0 = some (.bipush 24, 2) := by decide +kernel
theorem pm_a9_2 : pm_as (pm_cd pm_mm9) 2 = some (.istore_n 2, 1) := by decide +kernel
theorem pm_a9_3 : pm_as (pm_cd pm_mm9) 3 = some (.iload_n 2, 1) := by decide +kernel
theorem pm_a9_4 : pm_as (pm_cd pm_mm9) 4 = some (.ifCond .lt 47, 3) := by decide +kernel
theorem pm_a9_7 : pm_as (pm_cd pm_mm9) 7 = some (.aload_n 0, 1) := by decide +kernel
theorem pm_a9_8 : pm_as (pm_cd pm_mm9) 8 = some (.getfield 15, 3) := by decide +kernel
theorem pm_a9_11 : pm_as (pm_cd pm_mm9) 11 = some (.aload_n 0, 1) := by decide +kernel
theorem pm_a9_12 : pm_as (pm_cd pm_mm9) 12 = some (.getfield 9, 3) := by decide +kernel
theorem pm_a9_15 : pm_as (pm_cd pm_mm9) 15 = some (.arraylength, 1) := by decide +kernel
theorem pm_a9_16 : pm_as (pm_cd pm_mm9) 16 = some (.if_icmp .ge 29, 3) := by decide +kernel
theorem pm_a9_19 : pm_as (pm_cd pm_mm9) 19 = some (.aload_n 0, 1) := by decide +kernel
theorem pm_a9_20 : pm_as (pm_cd pm_mm9) 20 = some (.getfield 9, 3) := by decide +kernel
theorem pm_a9_23 : pm_as (pm_cd pm_mm9) 23 = some (.aload_n 0, 1) := by decide +kernel
theorem pm_a9_24 : pm_as (pm_cd pm_mm9) 24 = some (.getfield 15, 3) := by decide +kernel
theorem pm_a9_27 : pm_as (pm_cd pm_mm9) 27 = some (.iload_n 1, 1) := by decide +kernel
theorem pm_a9_28 : pm_as (pm_cd pm_mm9) 28 = some (.iload_n 2, 1) := by decide +kernel
theorem pm_a9_29 : pm_as (pm_cd pm_mm9) 29 = some (.iushr, 1) := by decide +kernel
theorem pm_a9_30 : pm_as (pm_cd pm_mm9) 30 = some (.sipush 255, 3) := by decide +kernel
theorem pm_a9_33 : pm_as (pm_cd pm_mm9) 33 = some (.iand, 1) := by decide +kernel
theorem pm_a9_34 : pm_as (pm_cd pm_mm9) 34 = some (.iastore, 1) := by decide +kernel
theorem pm_a9_35 : pm_as (pm_cd pm_mm9) 35 = some (.aload_n 0, 1) := by decide +kernel
theorem pm_a9_36 : pm_as (pm_cd pm_mm9) 36 = some (.dup, 1) := by decide +kernel
theorem pm_a9_37 : pm_as (pm_cd pm_mm9) 37 = some (.getfield 15, 3) := by decide +kernel
theorem pm_a9_40 : pm_as (pm_cd pm_mm9) 40 = some (.iconst 1, 1) := by decide +kernel
theorem pm_a9_41 : pm_as (pm_cd pm_mm9) 41 = some (.iadd, 1) := by decide +kernel
theorem pm_a9_42 : pm_as (pm_cd pm_mm9) 42 = some (.putfield 15, 3) := by decide +kernel
theorem pm_a9_45 : pm_as (pm_cd pm_mm9) 45 = some (.iinc 2 (-8), 3) := by decide +kernel
theorem pm_a9_48 : pm_as (pm_cd pm_mm9) 48 = some (.goto (-45), 3) := by decide +kernel
theorem pm_a9_51 : pm_as (pm_cd pm_mm9) 51 = some (.return_, 1) := by decide +kernel
theorem pm_a10_0 : pm_as (pm_cd pm_mm10) 0 = some (.iload_n 1, 1) := by decide +kernel
theorem pm_a10_1 : pm_as (pm_cd pm_mm10) 1 = some (.ifCond .lt 14, 3) := by decide +kernel
theorem pm_a10_4 : pm_as (pm_cd pm_mm10) 4 = some (.iload_n 1, 1) := by decide +kernel
theorem pm_a10_5 : pm_as (pm_cd pm_mm10) 5 = some (.aload_n 0, 1) := by decide +kernel
theorem pm_a10_6 : pm_as (pm_cd pm_mm10) 6 = some (.getfield 10, 3) := by decide +kernel
theorem pm_a10_9 : pm_as (pm_cd pm_mm10) 9 = some (.getfield 61, 3) := by decide +kernel
theorem pm_a10_12 : pm_as (pm_cd pm_mm10) 12 = some (.if_icmp .le 5, 3) := by decide +kernel
theorem pm_a10_15 : pm_as (pm_cd pm_mm10) 15 = some (.iconst (-1), 1) := by decide +kernel
theorem pm_a10_16 : pm_as (pm_cd pm_mm10) 16 = some (.ireturn, 1) := by decide +kernel
theorem pm_a10_17 : pm_as (pm_cd pm_mm10) 17 = some (.aload_n 0, 1) := by decide +kernel
theorem pm_a10_18 : pm_as (pm_cd pm_mm10) 18 = some (.getfield 10, 3) := by decide +kernel
theorem pm_a10_21 : pm_as (pm_cd pm_mm10) 21 = some (.getfield 61, 3) := by decide +kernel
theorem pm_a10_24 : pm_as (pm_cd pm_mm10) 24 = some (.istore_n 2, 1) := by decide +kernel
theorem pm_a10_25 : pm_as (pm_cd pm_mm10) 25 = some (.aload_n 0, 1) := by decide +kernel
theorem pm_a10_26 : pm_as (pm_cd pm_mm10) 26 = some (.getfield 10, 3) := by decide +kernel
theorem pm_a10_29 : pm_as (pm_cd pm_mm10) 29 = some (.iload_n 1, 1) := by decide +kernel
theorem pm_a10_30 : pm_as (pm_cd pm_mm10) 30 = some (.putfield 61, 3) := by decide +kernel
theorem pm_a10_33 : pm_as (pm_cd pm_mm10) 33 = some (.iload_n 2, 1) := by decide +kernel
theorem pm_a10_34 : pm_as (pm_cd pm_mm10) 34 = some (.ireturn, 1) := by decide +kernel
theorem pm_a11_0 : pm_as (pm_cd pm_mm11) 0 = some (.aload_n 0, 1) := by decide +kernel
theorem pm_a11_1 : pm_as (pm_cd pm_mm11) 1 = some (.invokevirtual 68, 3) := by decide +kernel
theorem pm_a11_4 : pm_as (pm_cd pm_mm11) 4 = some (.astore_n 1, 1) := by decide +kernel
theorem pm_a11_5 : pm_as (pm_cd pm_mm11) 5 = some (.aload_n 1, 1) := by decide +kernel
theorem pm_a11_6 : pm_as (pm_cd pm_mm11) 6 = some (.ifnonnull 6, 3) := by decide +kernel
theorem pm_a11_12 : pm_as (pm_cd pm_mm11) 12 = some (.aload_n 0, 1) := by decide +kernel
theorem pm_a11_13 : pm_as (pm_cd pm_mm11) 13 = some (.aload_n 0, 1) := by decide +kernel
theorem pm_a11_14 : pm_as (pm_cd pm_mm11) 14 = some (.getfield 41, 3) := by decide +kernel
theorem pm_a11_17 : pm_as (pm_cd pm_mm11) 17 = some (.aload_n 1, 1) := by decide +kernel
theorem pm_a11_18 : pm_as (pm_cd pm_mm11) 18 = some (.invokevirtual 72, 3) := by decide +kernel
theorem pm_a11_21 : pm_as (pm_cd pm_mm11) 21 = some (.putfield 76, 3) := by decide +kernel
theorem pm_a11_24 : pm_as (pm_cd pm_mm11) 24 = some (.aload_n 0, 1) := by decide +kernel
theorem pm_a11_25 : pm_as (pm_cd pm_mm11) 25 = some (.getfield 10, 3) := by decide +kernel
theorem pm_a11_28 : pm_as (pm_cd pm_mm11) 28 = some (.iconst 0, 1) := by decide +kernel
theorem pm_a11_29 : pm_as (pm_cd pm_mm11) 29 = some (.putfield 61, 3) := by decide +kernel
theorem pm_a11_32 : pm_as (pm_cd pm_mm11) 32 = some (.aload_n 0, 1) := by decide +kernel
theorem pm_a11_33 : pm_as (pm_cd pm_mm11) 33 = some (.getfield 76, 3) := by decide +kernel
theorem pm_a11_36 : pm_as (pm_cd pm_mm11) 36 = some (.ifCond .ne 10, 3) := by decide +kernel
theorem pm_a11_46 : pm_as (pm_cd pm_mm11) 46 = some (.bipush (-10), 2) := by decide +kernel
theorem pm_a11_48 : pm_as (pm_cd pm_mm11) 48 = some (.aload_n 0, 1) := by decide +kernel
theorem pm_a11_49 : pm_as (pm_cd pm_mm11) 49 = some (.getfield 41, 3) := by decide +kernel
theorem pm_a11_52 : pm_as (pm_cd pm_mm11) 52 = some (.getfield 83, 3) := by decide +kernel
theorem pm_a11_55 : pm_as (pm_cd pm_mm11) 55 = some (.isub, 1) := by decide +kernel
theorem pm_a11_56 : pm_as (pm_cd pm_mm11) 56 = some (.ireturn, 1) := by decide +kernel
theorem pm_a12_0 : pm_as (pm_cd pm_mm12) 0 = some (.aload_n 0, 1) := by decide +kernel
theorem pm_a12_1 : pm_as (pm_cd pm_mm12) 1 = some (.getfield 179, 3) := by decide +kernel
theorem pm_a12_4 : pm_as (pm_cd pm_mm12) 4 = some (.ifCond .lt 15, 3) := by decide +kernel
theorem pm_a12_7 : pm_as (pm_cd pm_mm12) 7 = some (.aload_n 0, 1) := by decide +kernel
theorem pm_a12_8 : pm_as (pm_cd pm_mm12) 8 = some (.getfield 179, 3) := by decide +kernel
theorem pm_a12_11 : pm_as (pm_cd pm_mm12) 11 = some (.aload_n 0, 1) := by decide +kernel
theorem pm_a12_12 : pm_as (pm_cd pm_mm12) 12 = some (.getfield 18, 3) := by decide +kernel
theorem pm_a12_15 : pm_as (pm_cd pm_mm12) 15 = some (.arraylength, 1) := by decide +kernel
theorem pm_a12_16 : pm_as (pm_cd pm_mm12) 16 = some (.if_icmp .lt 5, 3) := by decide +kernel
theorem pm_a12_21 : pm_as (pm_cd pm_mm12) 21 = some (.aload_n 0, 1) := by decide +kernel
theorem pm_a12_22 : pm_as (pm_cd pm_mm12) 22 = some (.getfield 18, 3) := by decide +kernel
theorem pm_a12_25 : pm_as (pm_cd pm_mm12) 25 = some (.aload_n 0, 1) := by decide +kernel
theorem pm_a12_26 : pm_as (pm_cd pm_mm12) 26 = some (.getfield 179, 3) := by decide +kernel
theorem pm_a12_29 : pm_as (pm_cd pm_mm12) 29 = some (.aaload, 1) := by decide +kernel
theorem pm_a12_30 : pm_as (pm_cd pm_mm12) 30 = some (.astore_n 1, 1) := by decide +kernel
theorem pm_a12_31 : pm_as (pm_cd pm_mm12) 31 = some (.aload_n 1, 1) := by decide +kernel
theorem pm_a12_32 : pm_as (pm_cd pm_mm12) 32 = some (.ifnonnull 24, 3) := by decide +kernel
theorem pm_a12_35 : pm_as (pm_cd pm_mm12) 35 = some (.new 16, 3) := by decide +kernel
theorem pm_a12_38 : pm_as (pm_cd pm_mm12) 38 = some (.dup, 1) := by decide +kernel
theorem pm_a12_39 : pm_as (pm_cd pm_mm12) 39 = some (.sipush 500, 3) := by decide +kernel
theorem pm_a12_42 : pm_as (pm_cd pm_mm12) 42 = some (.invokespecial 22, 3) := by decide +kernel
theorem pm_a12_45 : pm_as (pm_cd pm_mm12) 45 = some (.astore_n 1, 1) := by decide +kernel
theorem pm_a12_46 : pm_as (pm_cd pm_mm12) 46 = some (.aload_n 0, 1) := by decide +kernel
theorem pm_a12_47 : pm_as (pm_cd pm_mm12) 47 = some (.getfield 18, 3) := by decide +kernel
theorem pm_a12_50 : pm_as (pm_cd pm_mm12) 50 = some (.aload_n 0, 1) := by decide +kernel
theorem pm_a12_51 : pm_as (pm_cd pm_mm12) 51 = some (.getfield 179, 3) := by decide +kernel
theorem pm_a12_54 : pm_as (pm_cd pm_mm12) 54 = some (.aload_n 1, 1) := by decide +kernel
theorem pm_a12_55 : pm_as (pm_cd pm_mm12) 55 = some (.aastore, 1) := by decide +kernel
theorem pm_a12_56 : pm_as (pm_cd pm_mm12) 56 = some (.aload_n 1, 1) := by decide +kernel
theorem pm_a12_57 : pm_as (pm_cd pm_mm12) 57 = some (.invokevirtual 185, 3) := by decide +kernel
theorem pm_a12_60 : pm_as (pm_cd pm_mm12) 60 = some (.aload_n 1, 1) := by decide +kernel
theorem pm_a12_61 : pm_as (pm_cd pm_mm12) 61 = some (.areturn, 1) := by decide +kernel
theorem pm_a13_0 : pm_as (pm_cd pm_mm13) 0 = some (.aload_n 0, 1) := by decide +kernel
theorem pm_a13_1 : pm_as (pm_cd pm_mm13) 1 = some (.iconst 0, 1) := by decide +kernel
theorem pm_a13_2 : pm_as (pm_cd pm_mm13) 2 = some (.putfield 21, 3) := by decide +kernel
theorem pm_a13_5 : pm_as (pm_cd pm_mm13) 5 = some (.aload_n 0, 1) := by decide +kernel
theorem pm_a13_6 : pm_as (pm_cd pm_mm13) 6 = some (.iconst 0, 1) := by decide +kernel
theorem pm_a13_7 : pm_as (pm_cd pm_mm13) 7 = some (.putfield 25, 3) := by decide +kernel
theorem pm_a13_10 : pm_as (pm_cd pm_mm13) 10 = some (.return_, 1) := by decide +kernel
theorem pm_a14_0 : pm_as (pm_cd pm_mm14) 0 = some (.aload_n 0, 1) := by decide +kernel
theorem pm_a14_1 : pm_as (pm_cd pm_mm14) 1 = some (.iconst 0, 1) := by decide +kernel
theorem pm_a14_2 : pm_as (pm_cd pm_mm14) 2 = some (.putfield 25, 3) := by decide +kernel
theorem pm_a14_5 : pm_as (pm_cd pm_mm14) 5 = some (.aload_n 0, 1) := by decide +kernel
theorem pm_a14_6 : pm_as (pm_cd pm_mm14) 6 = some (.iconst 0, 1) := by decide +kernel
theorem pm_a14_7 : pm_as (pm_cd pm_mm14) 7 = some (.putfield 29, 3) := by decide +kernel
theorem pm_a14_10 : pm_as (pm_cd pm_mm14) 10 = some (.aload_n 0, 1) := by decide +kernel
theorem pm_a14_11 : pm_as (pm_cd pm_mm14) 11 = some (.iconst 0, 1) := by decide +kernel
theorem pm_a14_12 : pm_as (pm_cd pm_mm14) 12 = some (.putfield 32, 3) := by decide +kernel
theorem pm_a14_15 : pm_as (pm_cd pm_mm14) 15 = some (.aload_n 0, 1) := by decide +kernel
theorem pm_a14_16 : pm_as (pm_cd pm_mm14) 16 = some (.iconst 0, 1) := by decide +kernel
theorem pm_a14_17 : pm_as (pm_cd pm_mm14) 17 = some (.putfield 35, 3) := by decide +kernel
theorem pm_a14_20 : pm_as (pm_cd pm_mm14) 20 = some (.aload_n 0, 1) := by decide +kernel
theorem pm_a14_21 : pm_as (pm_cd pm_mm14) 21 = some (.iconst 0, 1) := by decide +kernel
theorem pm_a14_22 : pm_as (pm_cd pm_mm14) 22 = some (.putfield 38, 3) := by decide +kernel
theorem pm_a14_25 : pm_as (pm_cd pm_mm14) 25 = some (.aload_n 0, 1) := by decide +kernel
theorem pm_a14_26 : pm_as (pm_cd pm_mm14) 26 = some (.iconst 0, 1) := by decide +kernel
theorem pm_a14_27 : pm_as (pm_cd pm_mm14) 27 = some (.putfield 41, 3) := by decide +kernel
theorem pm_a14_30 : pm_as (pm_cd pm_mm14) 30 = some (.aload_n 0, 1) := by decide +kernel
theorem pm_a14_31 : pm_as (pm_cd pm_mm14) 31 = some (.invokevirtual 44, 3) := by decide +kernel
theorem pm_a14_34 : pm_as (pm_cd pm_mm14) 34 = some (.aload_n 0, 1) := by decide +kernel
theorem pm_a14_35 : pm_as (pm_cd pm_mm14) 35 = some (.invokevirtual 47, 3) := by decide +kernel
theorem pm_a14_38 : pm_as (pm_cd pm_mm14) 38 = some (.aload_n 0, 1) := by decide +kernel
theorem pm_a14_39 : pm_as (pm_cd pm_mm14) 39 = some (.getfield 38, 3) := by decide +kernel
theorem pm_a14_42 : pm_as (pm_cd pm_mm14) 42 = some (.ifCond .ne 8, 3) := by decide +kernel
theorem pm_a14_50 : pm_as (pm_cd pm_mm14) 50 = some (.aload_n 0, 1) := by decide +kernel
theorem pm_a14_51 : pm_as (pm_cd pm_mm14) 51 = some (.getfield 38, 3) := by decide +kernel
theorem pm_a14_54 : pm_as (pm_cd pm_mm14) 54 = some (.ireturn, 1) := by decide +kernel
theorem pm_a15_0 : pm_as (pm_cd pm_mm15) 0 = some (.aload_n 0, 1) := by decide +kernel
theorem pm_a15_1 : pm_as (pm_cd pm_mm15) 1 = some (.aload_n 0, 1) := by decide +kernel
theorem pm_a15_2 : pm_as (pm_cd pm_mm15) 2 = some (.getfield 25, 3) := by decide +kernel
theorem pm_a15_5 : pm_as (pm_cd pm_mm15) 5 = some (.putfield 140, 3) := by decide +kernel
theorem pm_a15_8 : pm_as (pm_cd pm_mm15) 8 = some (.aload_n 0, 1) := by decide +kernel
theorem pm_a15_9 : pm_as (pm_cd pm_mm15) 9 = some (.iconst 0, 1) := by decide +kernel
theorem pm_a15_10 : pm_as (pm_cd pm_mm15) 10 = some (.invokevirtual 121, 3) := by decide +kernel
theorem pm_a15_13 : pm_as (pm_cd pm_mm15) 13 = some (.return_, 1) := by decide +kernel
theorem pm_a16_0 : pm_as (pm_cd pm_mm16) 0 = some (.aload_n 0, 1) := by decide +kernel
theorem pm_a16_1 : pm_as (pm_cd pm_mm16) 1 = some (.getfield 25, 3) := by decide +kernel
theorem pm_a16_4 : pm_as (pm_cd pm_mm16) 4 = some (.ifCond .lt 35, 3) := by decide +kernel
theorem pm_a16_7 : pm_as (pm_cd pm_mm16) 7 = some (.aload_n 0, 1) := by decide +kernel
theorem pm_a16_8 : pm_as (pm_cd pm_mm16) 8 = some (.getfield 25, 3) := by decide +kernel
theorem pm_a16_11 : pm_as (pm_cd pm_mm16) 11 = some (.aload_n 0, 1) := by decide +kernel
theorem pm_a16_12 : pm_as (pm_cd pm_mm16) 12 = some (.getfield 9, 3) := by decide +kernel
theorem pm_a16_15 : pm_as (pm_cd pm_mm16) 15 = some (.arraylength, 1) := by decide +kernel
theorem pm_a16_16 : pm_as (pm_cd pm_mm16) 16 = some (.if_icmp .ge 23, 3) := by decide +kernel
theorem pm_a16_19 : pm_as (pm_cd pm_mm16) 19 = some (.aload_n 0, 1) := by decide +kernel
theorem pm_a16_20 : pm_as (pm_cd pm_mm16) 20 = some (.getfield 9, 3) := by decide +kernel
theorem pm_a16_23 : pm_as (pm_cd pm_mm16) 23 = some (.aload_n 0, 1) := by decide +kernel
theorem pm_a16_24 : pm_as (pm_cd pm_mm16) 24 = some (.getfield 25, 3) := by decide +kernel
theorem pm_a16_27 : pm_as (pm_cd pm_mm16) 27 = some (.iload_n 1, 1) := by decide +kernel
theorem pm_a16_28 : pm_as (pm_cd pm_mm16) 28 = some (.iastore, 1) := by decide +kernel
theorem pm_a16_29 : pm_as (pm_cd pm_mm16) 29 = some (.aload_n 0, 1) := by decide +kernel
theorem pm_a16_30 : pm_as (pm_cd pm_mm16) 30 = some (.dup, 1) := by decide +kernel
theorem pm_a16_31 : pm_as (pm_cd pm_mm16) 31 = some (.getfield 25, 3) := by decide +kernel
theorem pm_a16_34 : pm_as (pm_cd pm_mm16) 34 = some (.iconst 1, 1) := by decide +kernel
theorem pm_a16_35 : pm_as (pm_cd pm_mm16) 35 = some (.iadd, 1) := by decide +kernel
theorem pm_a16_36 : pm_as (pm_cd pm_mm16) 36 = some (.putfield 25, 3) := by decide +kernel
theorem pm_a16_39 : pm_as (pm_cd pm_mm16) 39 = some (.return_, 1) := by decide +kernel
theorem pm_a17_0 : pm_as (pm_cd pm_mm17) 0 = some (.aload_n 0, 1) := by decide +kernel
theorem pm_a17_1 : pm_as (pm_cd pm_mm17) 1 = some (.iconst 4, 1) := by decide +kernel
theorem pm_a17_2 : pm_as (pm_cd pm_mm17) 2 = some (.putfield 54, 3) := by decide +kernel
theorem pm_a17_5 : pm_as (pm_cd pm_mm17) 5 = some (.iconst 0, 1) := by decide +kernel
theorem pm_a17_6 : pm_as (pm_cd pm_mm17) 6 = some (.istore_n 1, 1) := by decide +kernel
theorem pm_a17_7 : pm_as (pm_cd pm_mm17) 7 = some (.iload_n 1, 1) := by decide +kernel
theorem pm_a17_8 : pm_as (pm_cd pm_mm17) 8 = some (.sipush 600, 3) := by decide +kernel
theorem pm_a17_11 : pm_as (pm_cd pm_mm17) 11 = some (.if_icmp .gt 38, 3) := by decide +kernel
theorem pm_a17_14 : pm_as (pm_cd pm_mm17) 14 = some (.aload_n 0, 1) := by decide +kernel
theorem pm_a17_15 : pm_as (pm_cd pm_mm17) 15 = some (.getfield 54, 3) := by decide +kernel
theorem pm_a17_18 : pm_as (pm_cd pm_mm17) 18 = some (.ifCond .eq 31, 3) := by decide +kernel
theorem pm_a17_21 : pm_as (pm_cd pm_mm17) 21 = some (.aload_n 0, 1) := by decide +kernel
theorem pm_a17_22 : pm_as (pm_cd pm_mm17) 22 = some (.getfield 38, 3) := by decide +kernel
theorem pm_a17_25 : pm_as (pm_cd pm_mm17) 25 = some (.ifCond .ne 24, 3) := by decide +kernel
theorem pm_a17_28 : pm_as (pm_cd pm_mm17) 28 = some (.aload_n 0, 1) := by decide +kernel
theorem pm_a17_29 : pm_as (pm_cd pm_mm17) 29 = some (.invokevirtual 57, 3) := by decide +kernel
theorem pm_a17_32 : pm_as (pm_cd pm_mm17) 32 = some (.aload_n 0, 1) := by decide +kernel
theorem pm_a17_33 : pm_as (pm_cd pm_mm17) 33 = some (.getfield 38, 3) := by decide +kernel
theorem pm_a17_36 : pm_as (pm_cd pm_mm17) 36 = some (.ifCond .ne 7, 3) := by decide +kernel
theorem pm_a17_39 : pm_as (pm_cd pm_mm17) 39 = some (.aload_n 0, 1) := by decide +kernel
theorem pm_a17_40 : pm_as (pm_cd pm_mm17) 40 = some (.invokevirtual 60, 3) := by decide +kernel
theorem pm_a17_43 : pm_as (pm_cd pm_mm17) 43 = some (.iinc 1 1, 3) := by decide +kernel
theorem pm_a17_46 : pm_as (pm_cd pm_mm17) 46 = some (.goto (-39), 3) := by decide +kernel
theorem pm_a17_49 : pm_as (pm_cd pm_mm17) 49 = some (.return_, 1) := by decide +kernel
theorem pm_a18_0 : pm_as (pm_cd pm_mm18) 0 = some (.aload_n 0, 1) := by decide +kernel
theorem pm_a18_1 : pm_as (pm_cd pm_mm18) 1 = some (.getfield 35, 3) := by decide +kernel
theorem pm_a18_4 : pm_as (pm_cd pm_mm18) 4 = some (.aload_n 0, 1) := by decide +kernel
theorem pm_a18_5 : pm_as (pm_cd pm_mm18) 5 = some (.getfield 21, 3) := by decide +kernel
theorem pm_a18_8 : pm_as (pm_cd pm_mm18) 8 = some (.getfield 63, 3) := by decide +kernel
theorem pm_a18_11 : pm_as (pm_cd pm_mm18) 11 = some (.if_icmp .ge 32, 3) := by decide +kernel
theorem pm_a18_43 : pm_as (pm_cd pm_mm18) 43 = some (.aload_n 0, 1) := by decide +kernel
theorem pm_a18_44 : pm_as (pm_cd pm_mm18) 44 = some (.aload_n 0, 1) := by decide +kernel
theorem pm_a18_45 : pm_as (pm_cd pm_mm18) 45 = some (.getfield 35, 3) := by decide +kernel
theorem pm_a18_48 : pm_as (pm_cd pm_mm18) 48 = some (.putfield 72, 3) := by decide +kernel
theorem pm_a18_51 : pm_as (pm_cd pm_mm18) 51 = some (.aload_n 0, 1) := by decide +kernel
theorem pm_a18_52 : pm_as (pm_cd pm_mm18) 52 = some (.getfield 21, 3) := by decide +kernel
theorem pm_a18_55 : pm_as (pm_cd pm_mm18) 55 = some (.aload_n 0, 1) := by decide +kernel
theorem pm_a18_56 : pm_as (pm_cd pm_mm18) 56 = some (.getfield 72, 3) := by decide +kernel
theorem pm_a18_59 : pm_as (pm_cd pm_mm18) 59 = some (.invokevirtual 68, 3) := by decide +kernel
theorem pm_a18_62 : pm_as (pm_cd pm_mm18) 62 = some (.istore_n 1, 1) := by decide +kernel
theorem pm_a18_63 : pm_as (pm_cd pm_mm18) 63 = some (.aload_n 0, 1) := by decide +kernel
theorem pm_a18_64 : pm_as (pm_cd pm_mm18) 64 = some (.getfield 72, 3) := by decide +kernel
theorem pm_a18_67 : pm_as (pm_cd pm_mm18) 67 = some (.aload_n 0, 1) := by decide +kernel
theorem pm_a18_68 : pm_as (pm_cd pm_mm18) 68 = some (.getfield 21, 3) := by decide +kernel
theorem pm_a18_71 : pm_as (pm_cd pm_mm18) 71 = some (.getfield 63, 3) := by decide +kernel
theorem pm_a18_74 : pm_as (pm_cd pm_mm18) 74 = some (.if_icmp .lt 11, 3) := by decide +kernel
theorem pm_a18_77 : pm_as (pm_cd pm_mm18) 77 = some (.aload_n 0, 1) := by decide +kernel
theorem pm_a18_78 : pm_as (pm_cd pm_mm18) 78 = some (.iconst 0, 1) := by decide +kernel
theorem pm_a18_79 : pm_as (pm_cd pm_mm18) 79 = some (.putfield 54, 3) := by decide +kernel
theorem pm_a18_82 : pm_as (pm_cd pm_mm18) 82 = some (.goto 106, 3) := by decide +kernel
theorem pm_a18_188 : pm_as (pm_cd pm_mm18) 188 = some (.return_, 1) := by decide +kernel
theorem pm_a19_0 : pm_as (pm_cd pm_mm19) 0 = some (.iload_n 1, 1) := by decide +kernel
theorem pm_a19_1 : pm_as (pm_cd pm_mm19) 1 = some (.ifCond .lt 29, 3) := by decide +kernel
theorem pm_a19_4 : pm_as (pm_cd pm_mm19) 4 = some (.iload_n 1, 1) := by decide +kernel
theorem pm_a19_5 : pm_as (pm_cd pm_mm19) 5 = some (.aload_n 0, 1) := by decide +kernel
theorem pm_a19_6 : pm_as (pm_cd pm_mm19) 6 = some (.getfield 15, 3) := by decide +kernel
theorem pm_a19_9 : pm_as (pm_cd pm_mm19) 9 = some (.if_icmp .ge 21, 3) := by decide +kernel
theorem pm_a19_30 : pm_as (pm_cd pm_mm19) 30 = some (.iconst (-1), 1) := by decide +kernel
theorem pm_a19_31 : pm_as (pm_cd pm_mm19) 31 = some (.ireturn, 1) := by decide +kernel
theorem pm_a20_0 : pm_as (pm_cd pm_mm20) 0 = some (.aload_n 0, 1) := by decide +kernel
theorem pm_a20_1 : pm_as (pm_cd pm_mm20) 1 = some (.iload_n 1, 1) := by decide +kernel
theorem pm_a20_2 : pm_as (pm_cd pm_mm20) 2 = some (.putfield 38, 3) := by decide +kernel
theorem pm_a20_5 : pm_as (pm_cd pm_mm20) 5 = some (.aload_n 0, 1) := by decide +kernel
theorem pm_a20_6 : pm_as (pm_cd pm_mm20) 6 = some (.aload_n 0, 1) := by decide +kernel
theorem pm_a20_7 : pm_as (pm_cd pm_mm20) 7 = some (.getfield 72, 3) := by decide +kernel
theorem pm_a20_10 : pm_as (pm_cd pm_mm20) 10 = some (.putfield 41, 3) := by decide +kernel
theorem pm_a20_13 : pm_as (pm_cd pm_mm20) 13 = some (.return_, 1) := by decide +kernel
theorem pm_a21_0 : pm_as (pm_cd pm_mm21) 0 = some (.aload_n 0, 1) := by decide +kernel
theorem pm_a21_1 : pm_as (pm_cd pm_mm21) 1 = some (.getfield 32, 3) := by decide +kernel
theorem pm_a21_4 : pm_as (pm_cd pm_mm21) 4 = some (.ifCond .eq 8, 3) := by decide +kernel
theorem pm_a21_12 : pm_as (pm_cd pm_mm21) 12 = some (.aload_n 0, 1) := by decide +kernel
theorem pm_a21_13 : pm_as (pm_cd pm_mm21) 13 = some (.getfield 54, 3) := by decide +kernel
theorem pm_a21_16 : pm_as (pm_cd pm_mm21) 16 = some (.tableswitch 98 1 4 #[32, 39, 54, 80], 32) := by decide +kernel
theorem pm_a21_114 : pm_as (pm_cd pm_mm21) 114 = some (.aload_n 0, 1) := by decide +kernel
theorem pm_a21_115 : pm_as (pm_cd pm_mm21) 115 = some (.invokevirtual 115, 3) := by decide +kernel
theorem pm_a21_118 : pm_as (pm_cd pm_mm21) 118 = some (.return_, 1) := by decide +kernel
theorem pm_a22_0 : pm_as (pm_cd pm_mm22) 0 = some (.aload_n 0, 1) := by decide +kernel
theorem pm_a22_1 : pm_as (pm_cd pm_mm22) 1 = some (.getfield 140, 3) := by decide +kernel
theorem pm_a22_4 : pm_as (pm_cd pm_mm22) 4 = some (.ifCond .lt 27, 3) := by decide +kernel
theorem pm_a22_7 : pm_as (pm_cd pm_mm22) 7 = some (.aload_n 0, 1) := by decide +kernel
theorem pm_a22_8 : pm_as (pm_cd pm_mm22) 8 = some (.getfield 140, 3) := by decide +kernel
theorem pm_a22_11 : pm_as (pm_cd pm_mm22) 11 = some (.aload_n 0, 1) := by decide +kernel
theorem pm_a22_12 : pm_as (pm_cd pm_mm22) 12 = some (.getfield 9, 3) := by decide +kernel
theorem pm_a22_15 : pm_as (pm_cd pm_mm22) 15 = some (.arraylength, 1) := by decide +kernel
theorem pm_a22_16 : pm_as (pm_cd pm_mm22) 16 = some (.if_icmp .ge 15, 3) := by decide +kernel
theorem pm_a22_19 : pm_as (pm_cd pm_mm22) 19 = some (.aload_n 0, 1) := by decide +kernel
theorem pm_a22_20 : pm_as (pm_cd pm_mm22) 20 = some (.getfield 9, 3) := by decide +kernel
theorem pm_a22_23 : pm_as (pm_cd pm_mm22) 23 = some (.aload_n 0, 1) := by decide +kernel
theorem pm_a22_24 : pm_as (pm_cd pm_mm22) 24 = some (.getfield 140, 3) := by decide +kernel
theorem pm_a22_27 : pm_as (pm_cd pm_mm22) 27 = some (.iaload, 1) := by decide +kernel
theorem pm_a22_28 : pm_as (pm_cd pm_mm22) 28 = some (.ifCond .ne 7, 3) := by decide +kernel
theorem pm_a22_31 : pm_as (pm_cd pm_mm22) 31 = some (.iconst 1, 1) := by decide +kernel
theorem pm_a22_32 : pm_as (pm_cd pm_mm22) 32 = some (.goto 4, 3) := by decide +kernel
theorem pm_a22_36 : pm_as (pm_cd pm_mm22) 36 = some (.ireturn, 1) := by decide +kernel
theorem pm_a23_0 : pm_as (pm_cd pm_mm23) 0 = some (.aload_n 0, 1) := by decide +kernel
theorem pm_a23_1 : pm_as (pm_cd pm_mm23) 1 = some (.invokevirtual 133, 3) := by decide +kernel
theorem pm_a23_4 : pm_as (pm_cd pm_mm23) 4 = some (.ifCond .ne 10, 3) := by decide +kernel
theorem pm_a23_14 : pm_as (pm_cd pm_mm23) 14 = some (.aload_n 0, 1) := by decide +kernel
theorem pm_a23_15 : pm_as (pm_cd pm_mm23) 15 = some (.iconst 2, 1) := by decide +kernel
theorem pm_a23_16 : pm_as (pm_cd pm_mm23) 16 = some (.invokevirtual 95, 3) := by decide +kernel
theorem pm_a23_19 : pm_as (pm_cd pm_mm23) 19 = some (.return_, 1) := by decide +kernel
theorem pm_a24_0 : pm_as (pm_cd pm_mm24) 0 = some (.aload_n 0, 1) := by decide +kernel
theorem pm_a24_1 : pm_as (pm_cd pm_mm24) 1 = some (.getfield 76, 3) := by decide +kernel
theorem pm_a24_4 : pm_as (pm_cd pm_mm24) 4 = some (.ireturn, 1) := by decide +kernel
theorem pm_a25_0 : pm_as (pm_cd pm_mm25) 0 = some (.aload_n 0, 1) := by decide +kernel
theorem pm_a25_1 : pm_as (pm_cd pm_mm25) 1 = some (.iload_n 1, 1) := by decide +kernel
theorem pm_a25_2 : pm_as (pm_cd pm_mm25) 2 = some (.invokevirtual 86, 3) := by decide +kernel
theorem pm_a25_5 : pm_as (pm_cd pm_mm25) 5 = some (.astore_n 2, 1) := by decide +kernel
theorem pm_a25_6 : pm_as (pm_cd pm_mm25) 6 = some (.aload_n 2, 1) := by decide +kernel
theorem pm_a25_7 : pm_as (pm_cd pm_mm25) 7 = some (.ifnonnull 7, 3) := by decide +kernel
theorem pm_a25_10 : pm_as (pm_cd pm_mm25) 10 = some (.iconst (-1), 1) := by decide +kernel
theorem pm_a25_11 : pm_as (pm_cd pm_mm25) 11 = some (.goto 7, 3) := by decide +kernel
theorem pm_a25_18 : pm_as (pm_cd pm_mm25) 18 = some (.ireturn, 1) := by decide +kernel
theorem pm_a26_0 : pm_as (pm_cd pm_mm26) 0 = some (.iload_n 1, 1) := by decide +kernel
theorem pm_a26_1 : pm_as (pm_cd pm_mm26) 1 = some (.ifCond .lt 29, 3) := by decide +kernel
theorem pm_a26_4 : pm_as (pm_cd pm_mm26) 4 = some (.iload_n 1, 1) := by decide +kernel
theorem pm_a26_5 : pm_as (pm_cd pm_mm26) 5 = some (.aload_n 0, 1) := by decide +kernel
theorem pm_a26_6 : pm_as (pm_cd pm_mm26) 6 = some (.getfield 179, 3) := by decide +kernel
theorem pm_a26_9 : pm_as (pm_cd pm_mm26) 9 = some (.if_icmp .ge 21, 3) := by decide +kernel
theorem pm_a26_30 : pm_as (pm_cd pm_mm26) 30 = some (.aconst_null, 1) := by decide +kernel
theorem pm_a26_31 : pm_as (pm_cd pm_mm26) 31 = some (.areturn, 1) := by decide +kernel
theorem pm_a27_0 : pm_as (pm_cd pm_mm27) 0 = some (.aload_n 0, 1) := by decide +kernel
theorem pm_a27_1 : pm_as (pm_cd pm_mm27) 1 = some (.iload_n 1, 1) := by decide +kernel
theorem pm_a27_2 : pm_as (pm_cd pm_mm27) 2 = some (.invokevirtual 86, 3) := by decide +kernel
theorem pm_a27_5 : pm_as (pm_cd pm_mm27) 5 = some (.astore_n 3, 1) := by decide +kernel
theorem pm_a27_6 : pm_as (pm_cd pm_mm27) 6 = some (.aload_n 3, 1) := by decide +kernel
theorem pm_a27_7 : pm_as (pm_cd pm_mm27) 7 = some (.ifnonnull 7, 3) := by decide +kernel
theorem pm_a27_10 : pm_as (pm_cd pm_mm27) 10 = some (.iconst (-1), 1) := by decide +kernel
theorem pm_a27_11 : pm_as (pm_cd pm_mm27) 11 = some (.goto 8, 3) := by decide +kernel
theorem pm_a27_19 : pm_as (pm_cd pm_mm27) 19 = some (.ireturn, 1) := by decide +kernel
theorem pm_a28_0 : pm_as (pm_cd pm_mm28) 0 = some (.aload_n 0, 1) := by decide +kernel
theorem pm_a28_1 : pm_as (pm_cd pm_mm28) 1 = some (.iload_n 1, 1) := by decide +kernel
theorem pm_a28_2 : pm_as (pm_cd pm_mm28) 2 = some (.invokevirtual 86, 3) := by decide +kernel
theorem pm_a28_5 : pm_as (pm_cd pm_mm28) 5 = some (.astore_n 3, 1) := by decide +kernel
theorem pm_a28_6 : pm_as (pm_cd pm_mm28) 6 = some (.aload_n 3, 1) := by decide +kernel
theorem pm_a28_7 : pm_as (pm_cd pm_mm28) 7 = some (.ifnonnull 7, 3) := by decide +kernel
theorem pm_a28_10 : pm_as (pm_cd pm_mm28) 10 = some (.iconst (-1), 1) := by decide +kernel
theorem pm_a28_11 : pm_as (pm_cd pm_mm28) 11 = some (.goto 12, 3) := by decide +kernel
theorem pm_a28_23 : pm_as (pm_cd pm_mm28) 23 = some (.ireturn, 1) := by decide +kernel
theorem pm_a29_0 : pm_as (pm_cd pm_mm29) 0 = some (.aload_n 0, 1) := by decide +kernel
theorem pm_a29_1 : pm_as (pm_cd pm_mm29) 1 = some (.iload_n 1, 1) := by decide +kernel
theorem pm_a29_2 : pm_as (pm_cd pm_mm29) 2 = some (.invokevirtual 86, 3) := by decide +kernel
theorem pm_a29_5 : pm_as (pm_cd pm_mm29) 5 = some (.astore_n 3, 1) := by decide +kernel
theorem pm_a29_6 : pm_as (pm_cd pm_mm29) 6 = some (.aload_n 0, 1) := by decide +kernel
theorem pm_a29_7 : pm_as (pm_cd pm_mm29) 7 = some (.iload_n 2, 1) := by decide +kernel
theorem pm_a29_8 : pm_as (pm_cd pm_mm29) 8 = some (.invokevirtual 86, 3) := by decide +kernel
theorem pm_a29_11 : pm_as (pm_cd pm_mm29) 11 = some (.astore 4, 2) := by decide +kernel
theorem pm_a29_13 : pm_as (pm_cd pm_mm29) 13 = some (.aload_n 3, 1) := by decide +kernel
theorem pm_a29_14 : pm_as (pm_cd pm_mm29) 14 = some (.ifnull 8, 3) := by decide +kernel
theorem pm_a29_22 : pm_as (pm_cd pm_mm29) 22 = some (.iconst (-1), 1) := by decide +kernel
theorem pm_a29_23 : pm_as (pm_cd pm_mm29) 23 = some (.ireturn, 1) := by decide +kernel
theorem pm_a30_0 : pm_as (pm_cd pm_mm30) 0 = some (.aload_n 0, 1) := by decide +kernel
theorem pm_a30_1 : pm_as (pm_cd pm_mm30) 1 = some (.iload_n 1, 1) := by decide +kernel
theorem pm_a30_2 : pm_as (pm_cd pm_mm30) 2 = some (.invokevirtual 86, 3) := by decide +kernel
theorem pm_a30_5 : pm_as (pm_cd pm_mm30) 5 = some (.astore_n 2, 1) := by decide +kernel
theorem pm_a30_6 : pm_as (pm_cd pm_mm30) 6 = some (.aload_n 2, 1) := by decide +kernel
theorem pm_a30_7 : pm_as (pm_cd pm_mm30) 7 = some (.ifnonnull 5, 3) := by decide +kernel
theorem pm_a30_10 : pm_as (pm_cd pm_mm30) 10 = some (.iconst (-1), 1) := by decide +kernel
theorem pm_a30_11 : pm_as (pm_cd pm_mm30) 11 = some (.ireturn, 1) := by decide +kernel
theorem pm_a31_0 : pm_as (pm_cd pm_mm31) 0 = some (.aload_n 0, 1) := by decide +kernel
theorem pm_a31_1 : pm_as (pm_cd pm_mm31) 1 = some (.iload_n 1, 1) := by decide +kernel
theorem pm_a31_2 : pm_as (pm_cd pm_mm31) 2 = some (.invokevirtual 86, 3) := by decide +kernel
theorem pm_a31_5 : pm_as (pm_cd pm_mm31) 5 = some (.astore_n 3, 1) := by decide +kernel
theorem pm_a31_6 : pm_as (pm_cd pm_mm31) 6 = some (.aload_n 0, 1) := by decide +kernel
theorem pm_a31_7 : pm_as (pm_cd pm_mm31) 7 = some (.iload_n 2, 1) := by decide +kernel
theorem pm_a31_8 : pm_as (pm_cd pm_mm31) 8 = some (.invokevirtual 86, 3) := by decide +kernel
theorem pm_a31_11 : pm_as (pm_cd pm_mm31) 11 = some (.astore 4, 2) := by decide +kernel
theorem pm_a31_13 : pm_as (pm_cd pm_mm31) 13 = some (.aload_n 3, 1) := by decide +kernel
theorem pm_a31_14 : pm_as (pm_cd pm_mm31) 14 = some (.ifnull 8, 3) := by decide +kernel
theorem pm_a31_22 : pm_as (pm_cd pm_mm31) 22 = some (.iconst (-1), 1) := by decide +kernel
theorem pm_a31_23 : pm_as (pm_cd pm_mm31) 23 = some (.ireturn, 1) := by decide +kernel
theorem pm_a32_0 : pm_as (pm_cd pm_mm32) 0 = some (.aload_n 0, 1) := by decide +kernel
theorem pm_a32_1 : pm_as (pm_cd pm_mm32) 1 = some (.iload_n 1, 1) := by decide +kernel
theorem pm_a32_2 : pm_as (pm_cd pm_mm32) 2 = some (.invokevirtual 86, 3) := by decide +kernel
theorem pm_a32_5 : pm_as (pm_cd pm_mm32) 5 = some (.astore_n 3, 1) := by decide +kernel
theorem pm_a32_6 : pm_as (pm_cd pm_mm32) 6 = some (.aload_n 3, 1) := by decide +kernel
theorem pm_a32_7 : pm_as (pm_cd pm_mm32) 7 = some (.ifnull 10, 3) := by decide +kernel
theorem pm_a32_17 : pm_as (pm_cd pm_mm32) 17 = some (.iconst (-1), 1) := by decide +kernel
theorem pm_a32_18 : pm_as (pm_cd pm_mm32) 18 = some (.goto 12, 3) := by decide +kernel
theorem pm_a32_30 : pm_as (pm_cd pm_mm32) 30 = some (.ireturn, 1) := by decide +kernel
theorem pm_a33_0 : pm_as (pm_cd pm_mm33) 0 = some (.aload_n 0, 1) := by decide +kernel
theorem pm_a33_1 : pm_as (pm_cd pm_mm33) 1 = some (.iload_n 1, 1) := by decide +kernel
theorem pm_a33_2 : pm_as (pm_cd pm_mm33) 2 = some (.invokevirtual 86, 3) := by decide +kernel
theorem pm_a33_5 : pm_as (pm_cd pm_mm33) 5 = some (.astore 4, 2) := by decide +kernel
theorem pm_a33_7 : pm_as (pm_cd pm_mm33) 7 = some (.aload 4, 2) := by decide +kernel
theorem pm_a33_9 : pm_as (pm_cd pm_mm33) 9 = some (.ifnull 17, 3) := by decide +kernel
theorem pm_a33_26 : pm_as (pm_cd pm_mm33) 26 = some (.iconst (-1), 1) := by decide +kernel
theorem pm_a33_27 : pm_as (pm_cd pm_mm33) 27 = some (.ireturn, 1) := by decide +kernel
theorem pm_a34_0 : pm_as (pm_cd pm_mm34) 0 = some (.iload_n 1, 1) := by decide +kernel
theorem pm_a34_1 : pm_as (pm_cd pm_mm34) 1 = some (.lookupswitch 37 #[(0, 27), (1, 32)], 27) := by decide +kernel
theorem pm_a34_28 : pm_as (pm_cd pm_mm34) 28 = some (.aload_n 0, 1) := by decide +kernel
theorem pm_a34_29 : pm_as (pm_cd pm_mm34) 29 = some (.getfield 127, 3) := by decide +kernel
theorem pm_a34_32 : pm_as (pm_cd pm_mm34) 32 = some (.ireturn, 1) := by decide +kernel
theorem pm_a34_33 : pm_as (pm_cd pm_mm34) 33 = some (.aload_n 0, 1) := by decide +kernel
theorem pm_a34_34 : pm_as (pm_cd pm_mm34) 34 = some (.getfield 124, 3) := by decide +kernel
theorem pm_a34_37 : pm_as (pm_cd pm_mm34) 37 = some (.ireturn, 1) := by decide +kernel
theorem pm_a34_38 : pm_as (pm_cd pm_mm34) 38 = some (.iconst (-1), 1) := by decide +kernel
theorem pm_a34_39 : pm_as (pm_cd pm_mm34) 39 = some (.ireturn, 1) := by decide +kernel
theorem pm_a35_0 : pm_as (pm_cd pm_mm35) 0 = some (.aload_n 0, 1) := by decide +kernel
theorem pm_a35_1 : pm_as (pm_cd pm_mm35) 1 = some (.iload_n 1, 1) := by decide +kernel
theorem pm_a35_2 : pm_as (pm_cd pm_mm35) 2 = some (.invokevirtual 86, 3) := by decide +kernel
theorem pm_a35_5 : pm_as (pm_cd pm_mm35) 5 = some (.astore_n 3, 1) := by decide +kernel
theorem pm_a35_6 : pm_as (pm_cd pm_mm35) 6 = some (.aload_n 3, 1) := by decide +kernel
theorem pm_a35_7 : pm_as (pm_cd pm_mm35) 7 = some (.ifnull 10, 3) := by decide +kernel
theorem pm_a35_17 : pm_as (pm_cd pm_mm35) 17 = some (.iconst (-1), 1) := by decide +kernel
theorem pm_a35_18 : pm_as (pm_cd pm_mm35) 18 = some (.goto 12, 3) := by decide +kernel
theorem pm_a35_30 : pm_as (pm_cd pm_mm35) 30 = some (.ireturn, 1) := by decide +kernel
theorem pm_a36_0 : pm_as (pm_cd pm_mm36) 0 = some (.aload_n 0, 1) := by decide +kernel
theorem pm_a36_1 : pm_as (pm_cd pm_mm36) 1 = some (.iload_n 1, 1) := by decide +kernel
theorem pm_a36_2 : pm_as (pm_cd pm_mm36) 2 = some (.invokevirtual 86, 3) := by decide +kernel
theorem pm_a36_5 : pm_as (pm_cd pm_mm36) 5 = some (.astore_n 2, 1) := by decide +kernel
theorem pm_a36_6 : pm_as (pm_cd pm_mm36) 6 = some (.aload_n 2, 1) := by decide +kernel
theorem pm_a36_7 : pm_as (pm_cd pm_mm36) 7 = some (.ifnonnull 7, 3) := by decide +kernel
theorem pm_a36_10 : pm_as (pm_cd pm_mm36) 10 = some (.iconst (-1), 1) := by decide +kernel
theorem pm_a36_11 : pm_as (pm_cd pm_mm36) 11 = some (.goto 11, 3) := by decide +kernel
theorem pm_a36_22 : pm_as (pm_cd pm_mm36) 22 = some (.ireturn, 1) := by decide +kernel
theorem pm_a37_0 : pm_as (pm_cd pm_mm37) 0 = some (.aload_n 0, 1) := by decide +kernel
theorem pm_a37_1 : pm_as (pm_cd pm_mm37) 1 = some (.iload_n 1, 1) := by decide +kernel
theorem pm_a37_2 : pm_as (pm_cd pm_mm37) 2 = some (.invokevirtual 86, 3) := by decide +kernel
theorem pm_a37_5 : pm_as (pm_cd pm_mm37) 5 = some (.astore_n 2, 1) := by decide +kernel
theorem pm_a37_6 : pm_as (pm_cd pm_mm37) 6 = some (.aload_n 2, 1) := by decide +kernel
theorem pm_a37_7 : pm_as (pm_cd pm_mm37) 7 = some (.ifnonnull 5, 3) := by decide +kernel
theorem pm_a37_10 : pm_as (pm_cd pm_mm37) 10 = some (.iconst (-1), 1) := by decide +kernel
theorem pm_a37_11 : pm_as (pm_cd pm_mm37) 11 = some (.ireturn, 1) := by decide +kernel
theorem pm_a38_0 : pm_as (pm_cd pm_mm38) 0 = some (.aload_n 0, 1) := by decide +kernel
theorem pm_a38_1 : pm_as (pm_cd pm_mm38) 1 = some (.iload_n 1, 1) := by decide +kernel
theorem pm_a38_2 : pm_as (pm_cd pm_mm38) 2 = some (.invokevirtual 86, 3) := by decide +kernel
theorem pm_a38_5 : pm_as (pm_cd pm_mm38) 5 = some (.astore_n 2, 1) := by decide +kernel
theorem pm_a38_6 : pm_as (pm_cd pm_mm38) 6 = some (.aload_n 2, 1) := by decide +kernel
theorem pm_a38_7 : pm_as (pm_cd pm_mm38) 7 = some (.ifnonnull 7, 3) := by decide +kernel
theorem pm_a38_10 : pm_as (pm_cd pm_mm38) 10 = some (.iconst (-1), 1) := by decide +kernel
theorem pm_a38_11 : pm_as (pm_cd pm_mm38) 11 = some (.goto 7, 3) := by decide +kernel
theorem pm_a38_18 : pm_as (pm_cd pm_mm38) 18 = some (.ireturn, 1) := by decide +kernel
theorem pm_a39_0 : pm_as (pm_cd pm_mm39) 0 = some (.aload_n 0, 1) := by decide +kernel
theorem pm_a39_1 : pm_as (pm_cd pm_mm39) 1 = some (.iload_n 1, 1) := by decide +kernel
theorem pm_a39_2 : pm_as (pm_cd pm_mm39) 2 = some (.invokevirtual 86, 3) := by decide +kernel
theorem pm_a39_5 : pm_as (pm_cd pm_mm39) 5 = some (.astore_n 3, 1) := by decide +kernel
theorem pm_a39_6 : pm_as (pm_cd pm_mm39) 6 = some (.aload_n 3, 1) := by decide +kernel
theorem pm_a39_7 : pm_as (pm_cd pm_mm39) 7 = some (.ifnull 10, 3) := by decide +kernel
theorem pm_a39_17 : pm_as (pm_cd pm_mm39) 17 = some (.iconst (-1), 1) := by decide +kernel
theorem pm_a39_18 : pm_as (pm_cd pm_mm39) 18 = some (.ireturn, 1) := by decide +kernel
theorem pm_a40_0 : pm_as (pm_cd pm_mm40) 0 = some (.aload_n 0, 1) := by decide +kernel
theorem pm_a40_1 : pm_as (pm_cd pm_mm40) 1 = some (.iload_n 1, 1) := by decide +kernel
theorem pm_a40_2 : pm_as (pm_cd pm_mm40) 2 = some (.invokevirtual 86, 3) := by decide +kernel
theorem pm_a40_5 : pm_as (pm_cd pm_mm40) 5 = some (.astore_n 2, 1) := by decide +kernel
theorem pm_a40_6 : pm_as (pm_cd pm_mm40) 6 = some (.aload_n 2, 1) := by decide +kernel
theorem pm_a40_7 : pm_as (pm_cd pm_mm40) 7 = some (.ifnonnull 5, 3) := by decide +kernel
theorem pm_a40_10 : pm_as (pm_cd pm_mm40) 10 = some (.iconst (-1), 1) := by decide +kernel
theorem pm_a40_11 : pm_as (pm_cd pm_mm40) 11 = some (.ireturn, 1) := by decide +kernel
theorem pm_a41_0 : pm_as (pm_cd pm_mm41) 0 = some (.aload_n 0, 1) := by decide +kernel
theorem pm_a41_1 : pm_as (pm_cd pm_mm41) 1 = some (.getfield 159, 3) := by decide +kernel
theorem pm_a41_4 : pm_as (pm_cd pm_mm41) 4 = some (.ifnonnull 7, 3) := by decide +kernel
theorem pm_a41_7 : pm_as (pm_cd pm_mm41) 7 = some (.iconst (-1), 1) := by decide +kernel
theorem pm_a41_8 : pm_as (pm_cd pm_mm41) 8 = some (.goto 14, 3) := by decide +kernel
theorem pm_a41_22 : pm_as (pm_cd pm_mm41) 22 = some (.ireturn, 1) := by decide +kernel
theorem pm_a42_0 : pm_as (pm_cd pm_mm42) 0 = some (.aload_n 0, 1) := by decide +kernel
theorem pm_a42_1 : pm_as (pm_cd pm_mm42) 1 = some (.iload_n 1, 1) := by decide +kernel
theorem pm_a42_2 : pm_as (pm_cd pm_mm42) 2 = some (.invokevirtual 86, 3) := by decide +kernel
theorem pm_a42_5 : pm_as (pm_cd pm_mm42) 5 = some (.astore_n 3, 1) := by decide +kernel
theorem pm_a42_6 : pm_as (pm_cd pm_mm42) 6 = some (.aload_n 3, 1) := by decide +kernel
theorem pm_a42_7 : pm_as (pm_cd pm_mm42) 7 = some (.ifnonnull 5, 3) := by decide +kernel
theorem pm_a42_10 : pm_as (pm_cd pm_mm42) 10 = some (.iconst (-1), 1) := by decide +kernel
theorem pm_a42_11 : pm_as (pm_cd pm_mm42) 11 = some (.ireturn, 1) := by decide +kernel
theorem pm_a43_0 : pm_as (pm_cd pm_mm43) 0 = some (.aload_n 0, 1) := by decide +kernel
theorem pm_a43_1 : pm_as (pm_cd pm_mm43) 1 = some (.getfield 179, 3) := by decide +kernel
theorem pm_a43_4 : pm_as (pm_cd pm_mm43) 4 = some (.ifCond .ne 6, 3) := by decide +kernel
theorem pm_a43_7 : pm_as (pm_cd pm_mm43) 7 = some (.bipush (-4), 2) := by decide +kernel
theorem pm_a43_9 : pm_as (pm_cd pm_mm43) 9 = some (.ireturn, 1) := by decide +kernel
theorem pm_a44_0 : pm_as (pm_cd pm_mm44) 0 = some (.iload_n 1, 1) := by decide +kernel
theorem pm_a44_1 : pm_as (pm_cd pm_mm44) 1 = some (.tableswitch 45 0 2 #[27, 32, 40], 27) := by decide +kernel
theorem pm_a44_28 : pm_as (pm_cd pm_mm44) 28 = some (.aload_n 0, 1) := by decide +kernel
theorem pm_a44_29 : pm_as (pm_cd pm_mm44) 29 = some (.getfield 179, 3) := by decide +kernel
theorem pm_a44_32 : pm_as (pm_cd pm_mm44) 32 = some (.ireturn, 1) := by decide +kernel
theorem pm_a44_33 : pm_as (pm_cd pm_mm44) 33 = some (.aload_n 0, 1) := by decide +kernel
theorem pm_a44_34 : pm_as (pm_cd pm_mm44) 34 = some (.getfield 10, 3) := by decide +kernel
theorem pm_a44_37 : pm_as (pm_cd pm_mm44) 37 = some (.getfield 61, 3) := by decide +kernel
theorem pm_a44_40 : pm_as (pm_cd pm_mm44) 40 = some (.ireturn, 1) := by decide +kernel
theorem pm_a44_41 : pm_as (pm_cd pm_mm44) 41 = some (.aload_n 0, 1) := by decide +kernel
theorem pm_a44_42 : pm_as (pm_cd pm_mm44) 42 = some (.invokevirtual 182, 3) := by decide +kernel
theorem pm_a44_45 : pm_as (pm_cd pm_mm44) 45 = some (.ireturn, 1) := by decide +kernel
theorem pm_a44_46 : pm_as (pm_cd pm_mm44) 46 = some (.iconst (-1), 1) := by decide +kernel
theorem pm_a44_47 : pm_as (pm_cd pm_mm44) 47 = some (.ireturn, 1) := by decide +kernel
theorem pm_a45_0 : pm_as (pm_cd pm_mm45) 0 = some (.iconst 0, 1) := by decide +kernel
theorem pm_a45_1 : pm_as (pm_cd pm_mm45) 1 = some (.istore_n 1, 1) := by decide +kernel
theorem pm_a45_2 : pm_as (pm_cd pm_mm45) 2 = some (.iconst 0, 1) := by decide +kernel
theorem pm_a45_3 : pm_as (pm_cd pm_mm45) 3 = some (.istore_n 2, 1) := by decide +kernel
theorem pm_a45_4 : pm_as (pm_cd pm_mm45) 4 = some (.iload_n 2, 1) := by decide +kernel
theorem pm_a45_5 : pm_as (pm_cd pm_mm45) 5 = some (.aload_n 0, 1) := by decide +kernel
theorem pm_a45_6 : pm_as (pm_cd pm_mm45) 6 = some (.getfield 179, 3) := by decide +kernel
theorem pm_a45_9 : pm_as (pm_cd pm_mm45) 9 = some (.if_icmp .ge 30, 3) := by decide +kernel
theorem pm_a45_39 : pm_as (pm_cd pm_mm45) 39 = some (.iload_n 1, 1) := by decide +kernel
theorem pm_a45_40 : pm_as (pm_cd pm_mm45) 40 = some (.ireturn, 1) := by decide +kernel
theorem pm_a46_0 : pm_as (pm_cd pm_mm46) 0 = some (.aload_n 0, 1) := by decide +kernel
theorem pm_a46_1 : pm_as (pm_cd pm_mm46) 1 = some (.invokespecial 1, 3) := by decide +kernel
theorem pm_a46_4 : pm_as (pm_cd pm_mm46) 4 = some (.aload_n 0, 1) := by decide +kernel
theorem pm_a46_5 : pm_as (pm_cd pm_mm46) 5 = some (.bipush 32, 2) := by decide +kernel
theorem pm_a46_7 : pm_as (pm_cd pm_mm46) 7 = some (.newarray .int, 2) := by decide +kernel
theorem pm_a46_9 : pm_as (pm_cd pm_mm46) 9 = some (.putfield 7, 3) := by decide +kernel
theorem pm_a46_12 : pm_as (pm_cd pm_mm46) 12 = some (.aload_n 0, 1) := by decide +kernel
theorem pm_a46_13 : pm_as (pm_cd pm_mm46) 13 = some (.sipush 16000, 3) := by decide +kernel
theorem pm_a46_16 : pm_as (pm_cd pm_mm46) 16 = some (.newarray .int, 2) := by decide +kernel
theorem pm_a46_18 : pm_as (pm_cd pm_mm46) 18 = some (.putfield 13, 3) := by decide +kernel
theorem pm_a46_21 : pm_as (pm_cd pm_mm46) 21 = some (.aload_n 0, 1) := by decide +kernel
theorem pm_a46_22 : pm_as (pm_cd pm_mm46) 22 = some (.sipush 600, 3) := by decide +kernel
theorem pm_a46_25 : pm_as (pm_cd pm_mm46) 25 = some (.newarray .int, 2) := by decide +kernel
theorem pm_a46_27 : pm_as (pm_cd pm_mm46) 27 = some (.putfield 16, 3) := by decide +kernel
theorem pm_a46_30 : pm_as (pm_cd pm_mm46) 30 = some (.aload_n 0, 1) := by decide +kernel
theorem pm_a46_31 : pm_as (pm_cd pm_mm46) 31 = some (.sipush 12000, 3) := by decide +kernel
theorem pm_a46_34 : pm_as (pm_cd pm_mm46) 34 = some (.newarray .int, 2) := by decide +kernel
theorem pm_a46_36 : pm_as (pm_cd pm_mm46) 36 = some (.putfield 19, 3) := by decide +kernel
theorem pm_a46_39 : pm_as (pm_cd pm_mm46) 39 = some (.aload_n 0, 1) := by decide +kernel
theorem pm_a46_40 : pm_as (pm_cd pm_mm46) 40 = some (.sipush 12000, 3) := by decide +kernel
theorem pm_a46_43 : pm_as (pm_cd pm_mm46) 43 = some (.newarray .int, 2) := by decide +kernel
theorem pm_a46_45 : pm_as (pm_cd pm_mm46) 45 = some (.putfield 22, 3) := by decide +kernel
theorem pm_a46_48 : pm_as (pm_cd pm_mm46) 48 = some (.aload_n 0, 1) := by decide +kernel
theorem pm_a46_49 : pm_as (pm_cd pm_mm46) 49 = some (.sipush 12000, 3) := by decide +kernel
theorem pm_a46_52 : pm_as (pm_cd pm_mm46) 52 = some (.newarray .int, 2) := by decide +kernel
theorem pm_a46_54 : pm_as (pm_cd pm_mm46) 54 = some (.putfield 25, 3) := by decide +kernel
theorem pm_a46_57 : pm_as (pm_cd pm_mm46) 57 = some (.aload_n 0, 1) := by decide +kernel
theorem pm_a46_58 : pm_as (pm_cd pm_mm46) 58 = some (.bipush 90, 2) := by decide +kernel
theorem pm_a46_60 : pm_as (pm_cd pm_mm46) 60 = some (.newarray .int, 2) := by decide +kernel
theorem pm_a46_62 : pm_as (pm_cd pm_mm46) 62 = some (.putfield 28, 3) := by decide +kernel
theorem pm_a46_65 : pm_as (pm_cd pm_mm46) 65 = some (.aload_n 0, 1) := by decide +kernel
theorem pm_a46_66 : pm_as (pm_cd pm_mm46) 66 = some (.bipush 90, 2) := by decide +kernel
theorem pm_a46_68 : pm_as (pm_cd pm_mm46) 68 = some (.newarray .boolean, 2) := by decide +kernel
theorem pm_a46_70 : pm_as (pm_cd pm_mm46) 70 = some (.putfield 31, 3) := by decide +kernel
theorem pm_a46_73 : pm_as (pm_cd pm_mm46) 73 = some (.aload_n 0, 1) := by decide +kernel
theorem pm_a46_74 : pm_as (pm_cd pm_mm46) 74 = some (.bipush 90, 2) := by decide +kernel
theorem pm_a46_76 : pm_as (pm_cd pm_mm46) 76 = some (.newarray .int, 2) := by decide +kernel
theorem pm_a46_78 : pm_as (pm_cd pm_mm46) 78 = some (.putfield 35, 3) := by decide +kernel
theorem pm_a46_81 : pm_as (pm_cd pm_mm46) 81 = some (.aload_n 0, 1) := by decide +kernel
theorem pm_a46_82 : pm_as (pm_cd pm_mm46) 82 = some (.bipush 41, 2) := by decide +kernel
theorem pm_a46_84 : pm_as (pm_cd pm_mm46) 84 = some (.newarray .long, 2) := by decide +kernel
theorem pm_a46_86 : pm_as (pm_cd pm_mm46) 86 = some (.putfield 38, 3) := by decide +kernel
theorem pm_a46_89 : pm_as (pm_cd pm_mm46) 89 = some (.aload_n 0, 1) := by decide +kernel
theorem pm_a46_90 : pm_as (pm_cd pm_mm46) 90 = some (.sipush 6000, 3) := by decide +kernel
theorem pm_a46_93 : pm_as (pm_cd pm_mm46) 93 = some (.newarray .int, 2) := by decide +kernel
theorem pm_a46_95 : pm_as (pm_cd pm_mm46) 95 = some (.putfield 42, 3) := by decide +kernel
theorem pm_a46_98 : pm_as (pm_cd pm_mm46) 98 = some (.aload_n 0, 1) := by decide +kernel
theorem pm_a46_99 : pm_as (pm_cd pm_mm46) 99 = some (.sipush 501, 3) := by decide +kernel
theorem pm_a46_102 : pm_as (pm_cd pm_mm46) 102 = some (.newarray .boolean, 2) := by decide +kernel
theorem pm_a46_104 : pm_as (pm_cd pm_mm46) 104 = some (.putfield 45, 3) := by decide +kernel
theorem pm_a46_107 : pm_as (pm_cd pm_mm46) 107 = some (.aload_n 0, 1) := by decide +kernel
theorem pm_a46_108 : pm_as (pm_cd pm_mm46) 108 = some (.sipush 501, 3) := by decide +kernel
theorem pm_a46_111 : pm_as (pm_cd pm_mm46) 111 = some (.newarray .boolean, 2) := by decide +kernel
theorem pm_a46_113 : pm_as (pm_cd pm_mm46) 113 = some (.putfield 48, 3) := by decide +kernel
theorem pm_a46_116 : pm_as (pm_cd pm_mm46) 116 = some (.aload_n 0, 1) := by decide +kernel
theorem pm_a46_117 : pm_as (pm_cd pm_mm46) 117 = some (.sipush 501, 3) := by decide +kernel
theorem pm_a46_120 : pm_as (pm_cd pm_mm46) 120 = some (.newarray .int, 2) := by decide +kernel
theorem pm_a46_122 : pm_as (pm_cd pm_mm46) 122 = some (.putfield 51, 3) := by decide +kernel
theorem pm_a46_125 : pm_as (pm_cd pm_mm46) 125 = some (.aload_n 0, 1) := by decide +kernel
theorem pm_a46_126 : pm_as (pm_cd pm_mm46) 126 = some (.sipush 12000, 3) := by decide +kernel
theorem pm_a46_129 : pm_as (pm_cd pm_mm46) 129 = some (.newarray .int, 2) := by decide +kernel
theorem pm_a46_131 : pm_as (pm_cd pm_mm46) 131 = some (.putfield 54, 3) := by decide +kernel
theorem pm_a46_134 : pm_as (pm_cd pm_mm46) 134 = some (.aload_n 0, 1) := by decide +kernel
theorem pm_a46_135 : pm_as (pm_cd pm_mm46) 135 = some (.sipush 12000, 3) := by decide +kernel
theorem pm_a46_138 : pm_as (pm_cd pm_mm46) 138 = some (.newarray .int, 2) := by decide +kernel
theorem pm_a46_140 : pm_as (pm_cd pm_mm46) 140 = some (.putfield 57, 3) := by decide +kernel
theorem pm_a46_143 : pm_as (pm_cd pm_mm46) 143 = some (.aload_n 0, 1) := by decide +kernel
theorem pm_a46_144 : pm_as (pm_cd pm_mm46) 144 = some (.sipush 9000, 3) := by decide +kernel
theorem pm_a46_147 : pm_as (pm_cd pm_mm46) 147 = some (.newarray .int, 2) := by decide +kernel
theorem pm_a46_149 : pm_as (pm_cd pm_mm46) 149 = some (.putfield 60, 3) := by decide +kernel
theorem pm_a46_152 : pm_as (pm_cd pm_mm46) 152 = some (.aload_n 0, 1) := by decide +kernel
theorem pm_a46_153 : pm_as (pm_cd pm_mm46) 153 = some (.sipush 9000, 3) := by decide +kernel
theorem pm_a46_156 : pm_as (pm_cd pm_mm46) 156 = some (.newarray .int, 2) := by decide +kernel
theorem pm_a46_158 : pm_as (pm_cd pm_mm46) 158 = some (.putfield 63, 3) := by decide +kernel
theorem pm_a46_161 : pm_as (pm_cd pm_mm46) 161 = some (.aload_n 0, 1) := by decide +kernel
theorem pm_a46_162 : pm_as (pm_cd pm_mm46) 162 = some (.sipush 9000, 3) := by decide +kernel
theorem pm_a46_165 : pm_as (pm_cd pm_mm46) 165 = some (.newarray .int, 2) := by decide +kernel
theorem pm_a46_167 : pm_as (pm_cd pm_mm46) 167 = some (.putfield 66, 3) := by decide +kernel
theorem pm_a46_170 : pm_as (pm_cd pm_mm46) 170 = some (.aload_n 0, 1) := by decide +kernel
theorem pm_a46_171 : pm_as (pm_cd pm_mm46) 171 = some (.sipush 20000, 3) := by decide +kernel
theorem pm_a46_174 : pm_as (pm_cd pm_mm46) 174 = some (.newarray .int, 2) := by decide +kernel
theorem pm_a46_176 : pm_as (pm_cd pm_mm46) 176 = some (.putfield 69, 3) := by decide +kernel
theorem pm_a46_179 : pm_as (pm_cd pm_mm46) 179 = some (.aload_n 0, 1) := by decide +kernel
theorem pm_a46_180 : pm_as (pm_cd pm_mm46) 180 = some (.sipush 20000, 3) := by decide +kernel
theorem pm_a46_183 : pm_as (pm_cd pm_mm46) 183 = some (.newarray .int, 2) := by decide +kernel
theorem pm_a46_185 : pm_as (pm_cd pm_mm46) 185 = some (.putfield 72, 3) := by decide +kernel
theorem pm_a46_188 : pm_as (pm_cd pm_mm46) 188 = some (.aload_n 0, 1) := by decide +kernel
theorem pm_a46_189 : pm_as (pm_cd pm_mm46) 189 = some (.sipush 9000, 3) := by decide +kernel
theorem pm_a46_192 : pm_as (pm_cd pm_mm46) 192 = some (.newarray .int, 2) := by decide +kernel
theorem pm_a46_194 : pm_as (pm_cd pm_mm46) 194 = some (.putfield 75, 3) := by decide +kernel
theorem pm_a46_197 : pm_as (pm_cd pm_mm46) 197 = some (.aload_n 0, 1) := by decide +kernel
theorem pm_a46_198 : pm_as (pm_cd pm_mm46) 198 = some (.sipush 9000, 3) := by decide +kernel
theorem pm_a46_201 : pm_as (pm_cd pm_mm46) 201 = some (.newarray .int, 2) := by decide +kernel
theorem pm_a46_203 : pm_as (pm_cd pm_mm46) 203 = some (.putfield 78, 3) := by decide +kernel
theorem pm_a46_206 : pm_as (pm_cd pm_mm46) 206 = some (.aload_n 0, 1) := by decide +kernel
theorem pm_a46_207 : pm_as (pm_cd pm_mm46) 207 = some (.sipush 500, 3) := by decide +kernel
theorem pm_a46_210 : pm_as (pm_cd pm_mm46) 210 = some (.newarray .int, 2) := by decide +kernel
theorem pm_a46_212 : pm_as (pm_cd pm_mm46) 212 = some (.putfield 81, 3) := by decide +kernel
theorem pm_a46_215 : pm_as (pm_cd pm_mm46) 215 = some (.aload_n 0, 1) := by decide +kernel
theorem pm_a46_216 : pm_as (pm_cd pm_mm46) 216 = some (.sipush 500, 3) := by decide +kernel
theorem pm_a46_219 : pm_as (pm_cd pm_mm46) 219 = some (.newarray .int, 2) := by decide +kernel
theorem pm_a46_221 : pm_as (pm_cd pm_mm46) 221 = some (.putfield 84, 3) := by decide +kernel
theorem pm_a46_224 : pm_as (pm_cd pm_mm46) 224 = some (.aload_n 0, 1) := by decide +kernel
theorem pm_a46_225 : pm_as (pm_cd pm_mm46) 225 = some (.sipush 501, 3) := by decide +kernel
theorem pm_a46_228 : pm_as (pm_cd pm_mm46) 228 = some (.newarray .int, 2) := by decide +kernel
theorem pm_a46_230 : pm_as (pm_cd pm_mm46) 230 = some (.putfield 87, 3) := by decide +kernel
theorem pm_a46_233 : pm_as (pm_cd pm_mm46) 233 = some (.aload_n 0, 1) := by decide +kernel
theorem pm_a46_234 : pm_as (pm_cd pm_mm46) 234 = some (.sipush 501, 3) := by decide +kernel
theorem pm_a46_237 : pm_as (pm_cd pm_mm46) 237 = some (.newarray .int, 2) := by decide +kernel
theorem pm_a46_239 : pm_as (pm_cd pm_mm46) 239 = some (.putfield 90, 3) := by decide +kernel
theorem pm_a46_242 : pm_as (pm_cd pm_mm46) 242 = some (.aload_n 0, 1) := by decide +kernel
theorem pm_a46_243 : pm_as (pm_cd pm_mm46) 243 = some (.sipush 500, 3) := by decide +kernel
theorem pm_a46_246 : pm_as (pm_cd pm_mm46) 246 = some (.newarray .int, 2) := by decide +kernel
theorem pm_a46_248 : pm_as (pm_cd pm_mm46) 248 = some (.putfield 93, 3) := by decide +kernel
theorem pm_a46_251 : pm_as (pm_cd pm_mm46) 251 = some (.aload_n 0, 1) := by decide +kernel
theorem pm_a46_252 : pm_as (pm_cd pm_mm46) 252 = some (.sipush 500, 3) := by decide +kernel
theorem pm_a46_255 : pm_as (pm_cd pm_mm46) 255 = some (.newarray .int, 2) := by decide +kernel
theorem pm_a46_257 : pm_as (pm_cd pm_mm46) 257 = some (.putfield 96, 3) := by decide +kernel
theorem pm_a46_260 : pm_as (pm_cd pm_mm46) 260 = some (.aload_n 0, 1) := by decide +kernel
theorem pm_a46_261 : pm_as (pm_cd pm_mm46) 261 = some (.sipush 9000, 3) := by decide +kernel
theorem pm_a46_264 : pm_as (pm_cd pm_mm46) 264 = some (.newarray .int, 2) := by decide +kernel
theorem pm_a46_266 : pm_as (pm_cd pm_mm46) 266 = some (.putfield 99, 3) := by decide +kernel
theorem pm_a46_269 : pm_as (pm_cd pm_mm46) 269 = some (.aload_n 0, 1) := by decide +kernel
theorem pm_a46_270 : pm_as (pm_cd pm_mm46) 270 = some (.sipush 9000, 3) := by decide +kernel
theorem pm_a46_273 : pm_as (pm_cd pm_mm46) 273 = some (.newarray .int, 2) := by decide +kernel
theorem pm_a46_275 : pm_as (pm_cd pm_mm46) 275 = some (.putfield 102, 3) := by decide +kernel
theorem pm_a46_278 : pm_as (pm_cd pm_mm46) 278 = some (.return_, 1) := by decide +kernel
theorem pm_a47_0 : pm_as (pm_cd pm_mm47) 0 = some (.aload_n 0, 1) := by decide +kernel
theorem pm_a47_1 : pm_as (pm_cd pm_mm47) 1 = some (.getfield 105, 3) := by decide +kernel
theorem pm_a47_4 : pm_as (pm_cd pm_mm47) 4 = some (.bipush 20, 2) := by decide +kernel
theorem pm_a47_6 : pm_as (pm_cd pm_mm47) 6 = some (.iadd, 1) := by decide +kernel
theorem pm_a47_7 : pm_as (pm_cd pm_mm47) 7 = some (.sipush 600, 3) := by decide +kernel
theorem pm_a47_10 : pm_as (pm_cd pm_mm47) 10 = some (.if_icmp .le 6, 3) := by decide +kernel
theorem pm_a47_16 : pm_as (pm_cd pm_mm47) 16 = some (.aload_n 0, 1) := by decide +kernel
theorem pm_a47_17 : pm_as (pm_cd pm_mm47) 17 = some (.iload_n 1, 1) := by decide +kernel
theorem pm_a47_18 : pm_as (pm_cd pm_mm47) 18 = some (.invokevirtual 109, 3) := by decide +kernel
theorem pm_a47_21 : pm_as (pm_cd pm_mm47) 21 = some (.aload_n 0, 1) := by decide +kernel
theorem pm_a47_22 : pm_as (pm_cd pm_mm47) 22 = some (.iload_n 2, 1) := by decide +kernel
theorem pm_a47_23 : pm_as (pm_cd pm_mm47) 23 = some (.invokevirtual 109, 3) := by decide +kernel
theorem pm_a47_26 : pm_as (pm_cd pm_mm47) 26 = some (.aload_n 0, 1) := by decide +kernel
theorem pm_a47_27 : pm_as (pm_cd pm_mm47) 27 = some (.iload_n 3, 1) := by decide +kernel
theorem pm_a47_28 : pm_as (pm_cd pm_mm47) 28 = some (.invokevirtual 109, 3) := by decide +kernel
theorem pm_a47_31 : pm_as (pm_cd pm_mm47) 31 = some (.aload_n 0, 1) := by decide +kernel
theorem pm_a47_32 : pm_as (pm_cd pm_mm47) 32 = some (.iload 4, 2) := by decide +kernel
theorem pm_a47_34 : pm_as (pm_cd pm_mm47) 34 = some (.invokevirtual 109, 3) := by decide +kernel
theorem pm_a47_37 : pm_as (pm_cd pm_mm47) 37 = some (.aload_n 0, 1) := by decide +kernel
theorem pm_a47_38 : pm_as (pm_cd pm_mm47) 38 = some (.iload 5, 2) := by decide +kernel
theorem pm_a47_40 : pm_as (pm_cd pm_mm47) 40 = some (.invokevirtual 109, 3) := by decide +kernel
theorem pm_a47_43 : pm_as (pm_cd pm_mm47) 43 = some (.aload_n 0, 1) := by decide +kernel
theorem pm_a47_44 : pm_as (pm_cd pm_mm47) 44 = some (.getfield 105, 3) := by decide +kernel
theorem pm_a47_47 : pm_as (pm_cd pm_mm47) 47 = some (.ireturn, 1) := by decide +kernel
theorem pm_a48_0 : pm_as (pm_cd pm_mm48) 0 = some (.bipush 24, 2) := by decide +kernel
theorem pm_a48_2 : pm_as (pm_cd pm_mm48) 2 = some (.istore_n 2, 1) := by decide +kernel
theorem pm_a48_3 : pm_as (pm_cd pm_mm48) 3 = some (.iload_n 2, 1) := by decide +kernel
theorem pm_a48_4 : pm_as (pm_cd pm_mm48) 4 = some (.ifCond .lt 35, 3) := by decide +kernel
theorem pm_a48_7 : pm_as (pm_cd pm_mm48) 7 = some (.aload_n 0, 1) := by decide +kernel
theorem pm_a48_8 : pm_as (pm_cd pm_mm48) 8 = some (.getfield 16, 3) := by decide +kernel
theorem pm_a48_11 : pm_as (pm_cd pm_mm48) 11 = some (.aload_n 0, 1) := by decide +kernel
theorem pm_a48_12 : pm_as (pm_cd pm_mm48) 12 = some (.getfield 105, 3) := by decide +kernel
theorem pm_a48_15 : pm_as (pm_cd pm_mm48) 15 = some (.iload_n 1, 1) := by decide +kernel
theorem pm_a48_16 : pm_as (pm_cd pm_mm48) 16 = some (.iload_n 2, 1) := by decide +kernel
theorem pm_a48_17 : pm_as (pm_cd pm_mm48) 17 = some (.ishr, 1) := by decide +kernel
theorem pm_a48_18 : pm_as (pm_cd pm_mm48) 18 = some (.sipush 255, 3) := by decide +kernel
theorem pm_a48_21 : pm_as (pm_cd pm_mm48) 21 = some (.iand, 1) := by decide +kernel
theorem pm_a48_22 : pm_as (pm_cd pm_mm48) 22 = some (.iastore, 1) := by decide +kernel
theorem pm_a48_23 : pm_as (pm_cd pm_mm48) 23 = some (.aload_n 0, 1) := by decide +kernel
theorem pm_a48_24 : pm_as (pm_cd pm_mm48) 24 = some (.dup, 1) := by decide +kernel
theorem pm_a48_25 : pm_as (pm_cd pm_mm48) 25 = some (.getfield 105, 3) := by decide +kernel
theorem pm_a48_28 : pm_as (pm_cd pm_mm48) 28 = some (.iconst 1, 1) := by decide +kernel
theorem pm_a48_29 : pm_as (pm_cd pm_mm48) 29 = some (.iadd, 1) := by decide +kernel
theorem pm_a48_30 : pm_as (pm_cd pm_mm48) 30 = some (.putfield 105, 3) := by decide +kernel
theorem pm_a48_33 : pm_as (pm_cd pm_mm48) 33 = some (.iinc 2 (-8), 3) := by decide +kernel
theorem pm_a48_36 : pm_as (pm_cd pm_mm48) 36 = some (.goto (-33), 3) := by decide +kernel
theorem pm_a48_39 : pm_as (pm_cd pm_mm48) 39 = some (.return_, 1) := by decide +kernel
theorem pm_a49_0 : pm_as (pm_cd pm_mm49) 0 = some (.iload_n 1, 1) := by decide +kernel
theorem pm_a49_1 : pm_as (pm_cd pm_mm49) 1 = some (.i2l, 1) := by decide +kernel
theorem pm_a49_2 : pm_as (pm_cd pm_mm49) 2 = some (.lconst 0, 1) := by decide +kernel
theorem pm_a49_3 : pm_as (pm_cd pm_mm49) 3 = some (.aload_n 0, 1) := by decide +kernel
theorem pm_a49_4 : pm_as (pm_cd pm_mm49) 4 = some (.getfield 105, 3) := by decide +kernel
theorem pm_a49_7 : pm_as (pm_cd pm_mm49) 7 = some (.i2l, 1) := by decide +kernel
theorem pm_a49_8 : pm_as (pm_cd pm_mm49) 8 = some (.invokestatic 113, 3) := by decide +kernel
theorem pm_a49_11 : pm_as (pm_cd pm_mm49) 11 = some (.ifCond .ne 5, 3) := by decide +kernel
theorem pm_a49_14 : pm_as (pm_cd pm_mm49) 14 = some (.iconst (-1), 1) := by decide +kernel
theorem pm_a49_15 : pm_as (pm_cd pm_mm49) 15 = some (.ireturn, 1) := by decide +kernel
theorem pm_a49_16 : pm_as (pm_cd pm_mm49) 16 = some (.aload_n 0, 1) := by decide +kernel
theorem pm_a49_17 : pm_as (pm_cd pm_mm49) 17 = some (.getfield 105, 3) := by decide +kernel
theorem pm_a49_20 : pm_as (pm_cd pm_mm49) 20 = some (.istore_n 2, 1) := by decide +kernel
theorem pm_a49_21 : pm_as (pm_cd pm_mm49) 21 = some (.aload_n 0, 1) := by decide +kernel
theorem pm_a49_22 : pm_as (pm_cd pm_mm49) 22 = some (.iload_n 1, 1) := by decide +kernel
theorem pm_a49_23 : pm_as (pm_cd pm_mm49) 23 = some (.putfield 105, 3) := by decide +kernel
theorem pm_a49_26 : pm_as (pm_cd pm_mm49) 26 = some (.iload_n 2, 1) := by decide +kernel
theorem pm_a49_27 : pm_as (pm_cd pm_mm49) 27 = some (.ireturn, 1) := by decide +kernel
theorem pm_a50_0 : pm_as (pm_cd pm_mm50) 0 = some (.lload_n 0, 1) := by decide +kernel
theorem pm_a50_1 : pm_as (pm_cd pm_mm50) 1 = some (.lload_n 2, 1) := by decide +kernel
theorem pm_a50_2 : pm_as (pm_cd pm_mm50) 2 = some (.lcmp, 1) := by decide +kernel
theorem pm_a50_3 : pm_as (pm_cd pm_mm50) 3 = some (.ifCond .lt 14, 3) := by decide +kernel
theorem pm_a50_6 : pm_as (pm_cd pm_mm50) 6 = some (.lload_n 0, 1) := by decide +kernel
theorem pm_a50_7 : pm_as (pm_cd pm_mm50) 7 = some (.lload 4, 2) := by decide +kernel
theorem pm_a50_9 : pm_as (pm_cd pm_mm50) 9 = some (.lcmp, 1) := by decide +kernel
theorem pm_a50_10 : pm_as (pm_cd pm_mm50) 10 = some (.ifCond .gt 7, 3) := by decide +kernel
theorem pm_a50_13 : pm_as (pm_cd pm_mm50) 13 = some (.iconst 1, 1) := by decide +kernel
theorem pm_a50_14 : pm_as (pm_cd pm_mm50) 14 = some (.goto 4, 3) := by decide +kernel
theorem pm_a50_17 : pm_as (pm_cd pm_mm50) 17 = some (.iconst 0, 1) := by decide +kernel
theorem pm_a50_18 : pm_as (pm_cd pm_mm50) 18 = some (.ireturn, 1) := by decide +kernel
theorem pm_a51_0 : pm_as (pm_cd pm_mm51) 0 = some (.aload_n 0, 1) := by decide +kernel
theorem pm_a51_1 : pm_as (pm_cd pm_mm51) 1 = some (.getfield 204, 3) := by decide +kernel
theorem pm_a51_4 : pm_as (pm_cd pm_mm51) 4 = some (.bipush 32, 2) := by decide +kernel
theorem pm_a51_6 : pm_as (pm_cd pm_mm51) 6 = some (.if_icmp .ne 6, 3) := by decide +kernel
theorem pm_a51_12 : pm_as (pm_cd pm_mm51) 12 = some (.aload_n 0, 1) := by decide +kernel
theorem pm_a51_13 : pm_as (pm_cd pm_mm51) 13 = some (.iconst 0, 1) := by decide +kernel
theorem pm_a51_14 : pm_as (pm_cd pm_mm51) 14 = some (.putfield 120, 3) := by decide +kernel
theorem pm_a51_17 : pm_as (pm_cd pm_mm51) 17 = some (.aload_n 0, 1) := by decide +kernel
theorem pm_a51_18 : pm_as (pm_cd pm_mm51) 18 = some (.invokevirtual 207, 3) := by decide +kernel
theorem pm_a51_21 : pm_as (pm_cd pm_mm51) 21 = some (.aload_n 0, 1) := by decide +kernel
theorem pm_a51_22 : pm_as (pm_cd pm_mm51) 22 = some (.iconst 0, 1) := by decide +kernel
theorem pm_a51_23 : pm_as (pm_cd pm_mm51) 23 = some (.putfield 105, 3) := by decide +kernel
theorem pm_a51_26 : pm_as (pm_cd pm_mm51) 26 = some (.aload_n 0, 1) := by decide +kernel
theorem pm_a51_27 : pm_as (pm_cd pm_mm51) 27 = some (.getfield 120, 3) := by decide +kernel
theorem pm_a51_30 : pm_as (pm_cd pm_mm51) 30 = some (.ifCond .le 11, 3) := by decide +kernel
theorem pm_a51_33 : pm_as (pm_cd pm_mm51) 33 = some (.bipush (-10), 2) := by decide +kernel
theorem pm_a51_35 : pm_as (pm_cd pm_mm51) 35 = some (.aload_n 0, 1) := by decide +kernel
theorem pm_a51_36 : pm_as (pm_cd pm_mm51) 36 = some (.getfield 123, 3) := by decide +kernel
theorem pm_a51_39 : pm_as (pm_cd pm_mm51) 39 = some (.isub, 1) := by decide +kernel
theorem pm_a51_40 : pm_as (pm_cd pm_mm51) 40 = some (.ireturn, 1) := by decide +kernel
theorem pm_a52_0 : pm_as (pm_cd pm_mm52) 0 = some (.aload_n 0, 1) := by decide +kernel
theorem pm_a52_1 : pm_as (pm_cd pm_mm52) 1 = some (.iconst 0, 1) := by decide +kernel
theorem pm_a52_2 : pm_as (pm_cd pm_mm52) 2 = some (.putfield 126, 3) := by decide +kernel
theorem pm_a52_5 : pm_as (pm_cd pm_mm52) 5 = some (.aload_n 0, 1) := by decide +kernel
theorem pm_a52_6 : pm_as (pm_cd pm_mm52) 6 = some (.iconst 0, 1) := by decide +kernel
theorem pm_a52_7 : pm_as (pm_cd pm_mm52) 7 = some (.putfield 117, 3) := by decide +kernel
theorem pm_a52_10 : pm_as (pm_cd pm_mm52) 10 = some (.aload_n 0, 1) := by decide +kernel
theorem pm_a52_11 : pm_as (pm_cd pm_mm52) 11 = some (.iconst 0, 1) := by decide +kernel
theorem pm_a52_12 : pm_as (pm_cd pm_mm52) 12 = some (.putfield 167, 3) := by decide +kernel
theorem pm_a52_15 : pm_as (pm_cd pm_mm52) 15 = some (.aload_n 0, 1) := by decide +kernel
theorem pm_a52_16 : pm_as (pm_cd pm_mm52) 16 = some (.iconst 0, 1) := by decide +kernel
theorem pm_a52_17 : pm_as (pm_cd pm_mm52) 17 = some (.putfield 179, 3) := by decide +kernel
theorem pm_a52_20 : pm_as (pm_cd pm_mm52) 20 = some (.aload_n 0, 1) := by decide +kernel
theorem pm_a52_21 : pm_as (pm_cd pm_mm52) 21 = some (.iconst 0, 1) := by decide +kernel
theorem pm_a52_22 : pm_as (pm_cd pm_mm52) 22 = some (.putfield 182, 3) := by decide +kernel
theorem pm_a52_25 : pm_as (pm_cd pm_mm52) 25 = some (.aload_n 0, 1) := by decide +kernel
theorem pm_a52_26 : pm_as (pm_cd pm_mm52) 26 = some (.iconst (-1), 1) := by decide +kernel
theorem pm_a52_27 : pm_as (pm_cd pm_mm52) 27 = some (.invokevirtual 189, 3) := by decide +kernel
theorem pm_a52_30 : pm_as (pm_cd pm_mm52) 30 = some (.aload_n 0, 1) := by decide +kernel
theorem pm_a52_31 : pm_as (pm_cd pm_mm52) 31 = some (.invokevirtual 176, 3) := by decide +kernel
theorem pm_a52_34 : pm_as (pm_cd pm_mm52) 34 = some (.iconst 1, 1) := by decide +kernel
theorem pm_a52_35 : pm_as (pm_cd pm_mm52) 35 = some (.istore_n 1, 1) := by decide +kernel
theorem pm_a52_36 : pm_as (pm_cd pm_mm52) 36 = some (.iload_n 1, 1) := by decide +kernel
theorem pm_a52_37 : pm_as (pm_cd pm_mm52) 37 = some (.ifCond .eq 262, 3) := by decide +kernel
theorem pm_a52_40 : pm_as (pm_cd pm_mm52) 40 = some (.aload_n 0, 1) := by decide +kernel
theorem pm_a52_41 : pm_as (pm_cd pm_mm52) 41 = some (.getfield 120, 3) := by decide +kernel
theorem pm_a52_44 : pm_as (pm_cd pm_mm52) 44 = some (.ifCond .ne 255, 3) := by decide +kernel
theorem pm_a52_47 : pm_as (pm_cd pm_mm52) 47 = some (.aload_n 0, 1) := by decide +kernel
theorem pm_a52_48 : pm_as (pm_cd pm_mm52) 48 = some (.getfield 140, 3) := by decide +kernel
theorem pm_a52_51 : pm_as (pm_cd pm_mm52) 51 = some (.iconst 1, 1) := by decide +kernel
theorem pm_a52_52 : pm_as (pm_cd pm_mm52) 52 = some (.if_icmp .ne 10, 3) := by decide +kernel
theorem pm_a52_62 : pm_as (pm_cd pm_mm52) 62 = some (.aload_n 0, 1) := by decide +kernel
theorem pm_a52_63 : pm_as (pm_cd pm_mm52) 63 = some (.getfield 140, 3) := by decide +kernel
theorem pm_a52_66 : pm_as (pm_cd pm_mm52) 66 = some (.iconst 2, 1) := by decide +kernel
theorem pm_a52_67 : pm_as (pm_cd pm_mm52) 67 = some (.if_icmp .ne 10, 3) := by decide +kernel
theorem pm_a52_77 : pm_as (pm_cd pm_mm52) 77 = some (.aload_n 0, 1) := by decide +kernel
theorem pm_a52_78 : pm_as (pm_cd pm_mm52) 78 = some (.getfield 140, 3) := by decide +kernel
theorem pm_a52_81 : pm_as (pm_cd pm_mm52) 81 = some (.iconst 3, 1) := by decide +kernel
theorem pm_a52_82 : pm_as (pm_cd pm_mm52) 82 = some (.if_icmp .ne 23, 3) := by decide +kernel
theorem pm_a52_105 : pm_as (pm_cd pm_mm52) 105 = some (.aload_n 0, 1) := by decide +kernel
theorem pm_a52_106 : pm_as (pm_cd pm_mm52) 106 = some (.bipush 40, 2) := by decide +kernel
theorem pm_a52_108 : pm_as (pm_cd pm_mm52) 108 = some (.invokevirtual 185, 3) := by decide +kernel
theorem pm_a52_111 : pm_as (pm_cd pm_mm52) 111 = some (.ifCond .eq 50, 3) := by decide +kernel
theorem pm_a52_161 : pm_as (pm_cd pm_mm52) 161 = some (.aload_n 0, 1) := by decide +kernel
theorem pm_a52_162 : pm_as (pm_cd pm_mm52) 162 = some (.bipush 92, 2) := by decide +kernel
theorem pm_a52_164 : pm_as (pm_cd pm_mm52) 164 = some (.invokevirtual 185, 3) := by decide +kernel
theorem pm_a52_167 : pm_as (pm_cd pm_mm52) 167 = some (.ifCond .eq 10, 3) := by decide +kernel
theorem pm_a52_177 : pm_as (pm_cd pm_mm52) 177 = some (.aload_n 0, 1) := by decide +kernel
theorem pm_a52_178 : pm_as (pm_cd pm_mm52) 178 = some (.bipush 41, 2) := by decide +kernel
theorem pm_a52_180 : pm_as (pm_cd pm_mm52) 180 = some (.invokevirtual 185, 3) := by decide +kernel
theorem pm_a52_183 : pm_as (pm_cd pm_mm52) 183 = some (.ifCond .ne 10, 3) := by decide +kernel
theorem pm_a52_186 : pm_as (pm_cd pm_mm52) 186 = some (.aload_n 0, 1) := by decide +kernel
theorem pm_a52_187 : pm_as (pm_cd pm_mm52) 187 = some (.getfield 140, 3) := by decide +kernel
theorem pm_a52_190 : pm_as (pm_cd pm_mm52) 190 = some (.ifCond .ne 97, 3) := by decide +kernel
theorem pm_a52_193 : pm_as (pm_cd pm_mm52) 193 = some (.aload_n 0, 1) := by decide +kernel
theorem pm_a52_194 : pm_as (pm_cd pm_mm52) 194 = some (.invokevirtual 201, 3) := by decide +kernel
theorem pm_a52_197 : pm_as (pm_cd pm_mm52) 197 = some (.aload_n 0, 1) := by decide +kernel
theorem pm_a52_198 : pm_as (pm_cd pm_mm52) 198 = some (.getfield 140, 3) := by decide +kernel
theorem pm_a52_201 : pm_as (pm_cd pm_mm52) 201 = some (.ifCond .eq 7, 3) := by decide +kernel
theorem pm_a52_208 : pm_as (pm_cd pm_mm52) 208 = some (.iconst 0, 1) := by decide +kernel
theorem pm_a52_209 : pm_as (pm_cd pm_mm52) 209 = some (.istore_n 1, 1) := by decide +kernel
theorem pm_a52_210 : pm_as (pm_cd pm_mm52) 210 = some (.aload_n 0, 1) := by decide +kernel
theorem pm_a52_211 : pm_as (pm_cd pm_mm52) 211 = some (.getfield 120, 3) := by decide +kernel
theorem pm_a52_214 : pm_as (pm_cd pm_mm52) 214 = some (.ifCond .ne 35, 3) := by decide +kernel
theorem pm_a52_249 : pm_as (pm_cd pm_mm52) 249 = some (.aload_n 0, 1) := by decide +kernel
theorem pm_a52_250 : pm_as (pm_cd pm_mm52) 250 = some (.getfield 120, 3) := by decide +kernel
theorem pm_a52_253 : pm_as (pm_cd pm_mm52) 253 = some (.ifCond .ne (-217), 3) := by decide +kernel
theorem pm_a52_299 : pm_as (pm_cd pm_mm52) 299 = some (.aload_n 0, 1) := by decide +kernel
theorem pm_a52_300 : pm_as (pm_cd pm_mm52) 300 = some (.getfield 120, 3) := by decide +kernel
theorem pm_a52_303 : pm_as (pm_cd pm_mm52) 303 = some (.ifCond .ne 19, 3) := by decide +kernel
theorem pm_a52_322 : pm_as (pm_cd pm_mm52) 322 = some (.return_, 1) := by decide +kernel
theorem pm_a53_0 : pm_as (pm_cd pm_mm53) 0 = some (.aload_n 0, 1) := by decide +kernel
theorem pm_a53_1 : pm_as (pm_cd pm_mm53) 1 = some (.getfield 28, 3) := by decide +kernel
theorem pm_a53_4 : pm_as (pm_cd pm_mm53) 4 = some (.aload_n 0, 1) := by decide +kernel
theorem pm_a53_5 : pm_as (pm_cd pm_mm53) 5 = some (.getfield 167, 3) := by decide +kernel
theorem pm_a53_8 : pm_as (pm_cd pm_mm53) 8 = some (.aload_n 0, 1) := by decide +kernel
theorem pm_a53_9 : pm_as (pm_cd pm_mm53) 9 = some (.getfield 117, 3) := by decide +kernel
theorem pm_a53_12 : pm_as (pm_cd pm_mm53) 12 = some (.iastore, 1) := by decide +kernel
theorem pm_a53_13 : pm_as (pm_cd pm_mm53) 13 = some (.aload_n 0, 1) := by decide +kernel
theorem pm_a53_14 : pm_as (pm_cd pm_mm53) 14 = some (.getfield 31, 3) := by decide +kernel
theorem pm_a53_17 : pm_as (pm_cd pm_mm53) 17 = some (.aload_n 0, 1) := by decide +kernel
theorem pm_a53_18 : pm_as (pm_cd pm_mm53) 18 = some (.getfield 167, 3) := by decide +kernel
theorem pm_a53_21 : pm_as (pm_cd pm_mm53) 21 = some (.iconst 0, 1) := by decide +kernel
theorem pm_a53_22 : pm_as (pm_cd pm_mm53) 22 = some (.bastore, 1) := by decide +kernel
theorem pm_a53_23 : pm_as (pm_cd pm_mm53) 23 = some (.aload_n 0, 1) := by decide +kernel
theorem pm_a53_24 : pm_as (pm_cd pm_mm53) 24 = some (.getfield 35, 3) := by decide +kernel
theorem pm_a53_27 : pm_as (pm_cd pm_mm53) 27 = some (.aload_n 0, 1) := by decide +kernel
theorem pm_a53_28 : pm_as (pm_cd pm_mm53) 28 = some (.getfield 167, 3) := by decide +kernel
theorem pm_a53_31 : pm_as (pm_cd pm_mm53) 31 = some (.iload_n 1, 1) := by decide +kernel
theorem pm_a53_32 : pm_as (pm_cd pm_mm53) 32 = some (.iastore, 1) := by decide +kernel
theorem pm_a53_33 : pm_as (pm_cd pm_mm53) 33 = some (.aload_n 0, 1) := by decide +kernel
theorem pm_a53_34 : pm_as (pm_cd pm_mm53) 34 = some (.dup, 1) := by decide +kernel
theorem pm_a53_35 : pm_as (pm_cd pm_mm53) 35 = some (.getfield 167, 3) := by decide +kernel
theorem pm_a53_38 : pm_as (pm_cd pm_mm53) 38 = some (.iconst 1, 1) := by decide +kernel
theorem pm_a53_39 : pm_as (pm_cd pm_mm53) 39 = some (.iadd, 1) := by decide +kernel
theorem pm_a53_40 : pm_as (pm_cd pm_mm53) 40 = some (.putfield 167, 3) := by decide +kernel
theorem pm_a53_43 : pm_as (pm_cd pm_mm53) 43 = some (.return_, 1) := by decide +kernel
theorem pm_a54_0 : pm_as (pm_cd pm_mm54) 0 = some (.aload_n 0, 1) := by decide +kernel
theorem pm_a54_1 : pm_as (pm_cd pm_mm54) 1 = some (.invokevirtual 129, 3) := by decide +kernel
theorem pm_a54_4 : pm_as (pm_cd pm_mm54) 4 = some (.bipush 32, 2) := by decide +kernel
theorem pm_a54_6 : pm_as (pm_cd pm_mm54) 6 = some (.if_icmp .ne 16, 3) := by decide +kernel
theorem pm_a54_22 : pm_as (pm_cd pm_mm54) 22 = some (.aload_n 0, 1) := by decide +kernel
theorem pm_a54_23 : pm_as (pm_cd pm_mm54) 23 = some (.aload_n 0, 1) := by decide +kernel
theorem pm_a54_24 : pm_as (pm_cd pm_mm54) 24 = some (.getfield 126, 3) := by decide +kernel
theorem pm_a54_27 : pm_as (pm_cd pm_mm54) 27 = some (.putfield 133, 3) := by decide +kernel
theorem pm_a54_30 : pm_as (pm_cd pm_mm54) 30 = some (.aload_n 0, 1) := by decide +kernel
theorem pm_a54_31 : pm_as (pm_cd pm_mm54) 31 = some (.lconst 0, 1) := by decide +kernel
theorem pm_a54_32 : pm_as (pm_cd pm_mm54) 32 = some (.putfield 136, 3) := by decide +kernel
theorem pm_a54_35 : pm_as (pm_cd pm_mm54) 35 = some (.aload_n 0, 1) := by decide +kernel
theorem pm_a54_36 : pm_as (pm_cd pm_mm54) 36 = some (.invokevirtual 129, 3) := by decide +kernel
theorem pm_a54_39 : pm_as (pm_cd pm_mm54) 39 = some (.istore_n 1, 1) := by decide +kernel
theorem pm_a54_40 : pm_as (pm_cd pm_mm54) 40 = some (.iload_n 1, 1) := by decide +kernel
theorem pm_a54_41 : pm_as (pm_cd pm_mm54) 41 = some (.ifCond .ge 11, 3) := by decide +kernel
theorem pm_a54_44 : pm_as (pm_cd pm_mm54) 44 = some (.aload_n 0, 1) := by decide +kernel
theorem pm_a54_45 : pm_as (pm_cd pm_mm54) 45 = some (.iconst 0, 1) := by decide +kernel
theorem pm_a54_46 : pm_as (pm_cd pm_mm54) 46 = some (.putfield 140, 3) := by decide +kernel
theorem pm_a54_49 : pm_as (pm_cd pm_mm54) 49 = some (.goto 341, 3) := by decide +kernel
theorem pm_a54_390 : pm_as (pm_cd pm_mm54) 390 = some (.return_, 1) := by decide +kernel
theorem pm_a55_0 : pm_as (pm_cd pm_mm55) 0 = some (.aload_n 0, 1) := by decide +kernel
theorem pm_a55_1 : pm_as (pm_cd pm_mm55) 1 = some (.getfield 126, 3) := by decide +kernel
theorem pm_a55_4 : pm_as (pm_cd pm_mm55) 4 = some (.aload_n 0, 1) := by decide +kernel
theorem pm_a55_5 : pm_as (pm_cd pm_mm55) 5 = some (.getfield 105, 3) := by decide +kernel
theorem pm_a55_8 : pm_as (pm_cd pm_mm55) 8 = some (.if_icmp .ge 15, 3) := by decide +kernel
theorem pm_a55_23 : pm_as (pm_cd pm_mm55) 23 = some (.iconst (-1), 1) := by decide +kernel
theorem pm_a55_24 : pm_as (pm_cd pm_mm55) 24 = some (.ireturn, 1) := by decide +kernel
theorem pm_a56_0 : pm_as (pm_cd pm_mm56) 0 = some (.aload_n 0, 1) := by decide +kernel
theorem pm_a56_1 : pm_as (pm_cd pm_mm56) 1 = some (.getfield 120, 3) := by decide +kernel
theorem pm_a56_4 : pm_as (pm_cd pm_mm56) 4 = some (.ifCond .ne 13, 3) := by decide +kernel
theorem pm_a56_7 : pm_as (pm_cd pm_mm56) 7 = some (.aload_n 0, 1) := by decide +kernel
theorem pm_a56_8 : pm_as (pm_cd pm_mm56) 8 = some (.iload_n 1, 1) := by decide +kernel
theorem pm_a56_9 : pm_as (pm_cd pm_mm56) 9 = some (.putfield 120, 3) := by decide +kernel
theorem pm_a56_12 : pm_as (pm_cd pm_mm56) 12 = some (.aload_n 0, 1) := by decide +kernel
theorem pm_a56_13 : pm_as (pm_cd pm_mm56) 13 = some (.iload_n 2, 1) := by decide +kernel
theorem pm_a56_14 : pm_as (pm_cd pm_mm56) 14 = some (.putfield 123, 3) := by decide +kernel
theorem pm_a56_17 : pm_as (pm_cd pm_mm56) 17 = some (.return_, 1) := by decide +kernel
theorem pm_a57_0 : pm_as (pm_cd pm_mm57) 0 = some (.aload_n 0, 1) := by decide +kernel
theorem pm_a57_1 : pm_as (pm_cd pm_mm57) 1 = some (.getfield 140, 3) := by decide +kernel
theorem pm_a57_4 : pm_as (pm_cd pm_mm57) 4 = some (.iconst 4, 1) := by decide +kernel
theorem pm_a57_5 : pm_as (pm_cd pm_mm57) 5 = some (.if_icmp .ne 17, 3) := by decide +kernel
theorem pm_a57_22 : pm_as (pm_cd pm_mm57) 22 = some (.iconst 0, 1) := by decide +kernel
theorem pm_a57_23 : pm_as (pm_cd pm_mm57) 23 = some (.ireturn, 1) := by decide +kernel
theorem pm_a58_0 : pm_as (pm_cd pm_mm58) 0 = some (.aload_n 0, 1) := by decide +kernel
theorem pm_a58_1 : pm_as (pm_cd pm_mm58) 1 = some (.getfield 120, 3) := by decide +kernel
theorem pm_a58_4 : pm_as (pm_cd pm_mm58) 4 = some (.ifCond .ne 96, 3) := by decide +kernel
theorem pm_a58_7 : pm_as (pm_cd pm_mm58) 7 = some (.aload_n 0, 1) := by decide +kernel
theorem pm_a58_8 : pm_as (pm_cd pm_mm58) 8 = some (.getfield 35, 3) := by decide +kernel
theorem pm_a58_11 : pm_as (pm_cd pm_mm58) 11 = some (.aload_n 0, 1) := by decide +kernel
theorem pm_a58_12 : pm_as (pm_cd pm_mm58) 12 = some (.getfield 167, 3) := by decide +kernel
theorem pm_a58_15 : pm_as (pm_cd pm_mm58) 15 = some (.iconst 1, 1) := by decide +kernel
theorem pm_a58_16 : pm_as (pm_cd pm_mm58) 16 = some (.isub, 1) := by decide +kernel
theorem pm_a58_17 : pm_as (pm_cd pm_mm58) 17 = some (.iaload, 1) := by decide +kernel
theorem pm_a58_18 : pm_as (pm_cd pm_mm58) 18 = some (.ifCond .le 82, 3) := by decide +kernel
theorem pm_a58_100 : pm_as (pm_cd pm_mm58) 100 = some (.aload_n 0, 1) := by decide +kernel
theorem pm_a58_101 : pm_as (pm_cd pm_mm58) 101 = some (.getfield 120, 3) := by decide +kernel
theorem pm_a58_104 : pm_as (pm_cd pm_mm58) 104 = some (.ifCond .ne 26, 3) := by decide +kernel
theorem pm_a58_107 : pm_as (pm_cd pm_mm58) 107 = some (.aload_n 0, 1) := by decide +kernel
theorem pm_a58_108 : pm_as (pm_cd pm_mm58) 108 = some (.getfield 31, 3) := by decide +kernel
theorem pm_a58_111 : pm_as (pm_cd pm_mm58) 111 = some (.aload_n 0, 1) := by decide +kernel
theorem pm_a58_112 : pm_as (pm_cd pm_mm58) 112 = some (.getfield 167, 3) := by decide +kernel
theorem pm_a58_115 : pm_as (pm_cd pm_mm58) 115 = some (.iconst 1, 1) := by decide +kernel
theorem pm_a58_116 : pm_as (pm_cd pm_mm58) 116 = some (.isub, 1) := by decide +kernel
theorem pm_a58_117 : pm_as (pm_cd pm_mm58) 117 = some (.baload, 1) := by decide +kernel
theorem pm_a58_118 : pm_as (pm_cd pm_mm58) 118 = some (.ifCond .ne 12, 3) := by decide +kernel
theorem pm_a58_121 : pm_as (pm_cd pm_mm58) 121 = some (.aload_n 0, 1) := by decide +kernel
theorem pm_a58_122 : pm_as (pm_cd pm_mm58) 122 = some (.iconst 2, 1) := by decide +kernel
theorem pm_a58_123 : pm_as (pm_cd pm_mm58) 123 = some (.aload_n 0, 1) := by decide +kernel
theorem pm_a58_124 : pm_as (pm_cd pm_mm58) 124 = some (.getfield 133, 3) := by decide +kernel
theorem pm_a58_127 : pm_as (pm_cd pm_mm58) 127 = some (.invokevirtual 151, 3) := by decide +kernel
theorem pm_a58_130 : pm_as (pm_cd pm_mm58) 130 = some (.return_, 1) := by decide +kernel
theorem pm_a59_0 : pm_as (pm_cd pm_mm59) 0 = some (.aload_n 0, 1) := by decide +kernel
theorem pm_a59_1 : pm_as (pm_cd pm_mm59) 1 = some (.getfield 120, 3) := by decide +kernel
theorem pm_a59_4 : pm_as (pm_cd pm_mm59) 4 = some (.ireturn, 1) := by decide +kernel
theorem pm_a60_0 : pm_as (pm_cd pm_mm60) 0 = some (.aload_n 0, 1) := by decide +kernel
theorem pm_a60_1 : pm_as (pm_cd pm_mm60) 1 = some (.iload_n 1, 1) := by decide +kernel
theorem pm_a60_2 : pm_as (pm_cd pm_mm60) 2 = some (.invokevirtual 213, 3) := by decide +kernel
theorem pm_a60_5 : pm_as (pm_cd pm_mm60) 5 = some (.ifCond .eq 12, 3) := by decide +kernel
theorem pm_a60_17 : pm_as (pm_cd pm_mm60) 17 = some (.iconst (-1), 1) := by decide +kernel
theorem pm_a60_18 : pm_as (pm_cd pm_mm60) 18 = some (.ireturn, 1) := by decide +kernel
theorem pm_a61_0 : pm_as (pm_cd pm_mm61) 0 = some (.iload_n 1, 1) := by decide +kernel
theorem pm_a61_1 : pm_as (pm_cd pm_mm61) 1 = some (.i2l, 1) := by decide +kernel
theorem pm_a61_2 : pm_as (pm_cd pm_mm61) 2 = some (.lconst 0, 1) := by decide +kernel
theorem pm_a61_3 : pm_as (pm_cd pm_mm61) 3 = some (.aload_n 0, 1) := by decide +kernel
theorem pm_a61_4 : pm_as (pm_cd pm_mm61) 4 = some (.getfield 204, 3) := by decide +kernel
theorem pm_a61_7 : pm_as (pm_cd pm_mm61) 7 = some (.iconst 1, 1) := by decide +kernel
theorem pm_a61_8 : pm_as (pm_cd pm_mm61) 8 = some (.isub, 1) := by decide +kernel
theorem pm_a61_9 : pm_as (pm_cd pm_mm61) 9 = some (.i2l, 1) := by decide +kernel
theorem pm_a61_10 : pm_as (pm_cd pm_mm61) 10 = some (.invokestatic 113, 3) := by decide +kernel
theorem pm_a61_13 : pm_as (pm_cd pm_mm61) 13 = some (.ireturn, 1) := by decide +kernel
theorem pm_a62_0 : pm_as (pm_cd pm_mm62) 0 = some (.aload_n 0, 1) := by decide +kernel
theorem pm_a62_1 : pm_as (pm_cd pm_mm62) 1 = some (.iload_n 1, 1) := by decide +kernel
theorem pm_a62_2 : pm_as (pm_cd pm_mm62) 2 = some (.invokevirtual 213, 3) := by decide +kernel
theorem pm_a62_5 : pm_as (pm_cd pm_mm62) 5 = some (.ifCond .eq 36, 3) := by decide +kernel
theorem pm_a62_41 : pm_as (pm_cd pm_mm62) 41 = some (.iconst (-1), 1) := by decide +kernel
theorem pm_a62_42 : pm_as (pm_cd pm_mm62) 42 = some (.ireturn, 1) := by decide +kernel
theorem pm_a63_0 : pm_as (pm_cd pm_mm63) 0 = some (.aload_n 0, 1) := by decide +kernel
theorem pm_a63_1 : pm_as (pm_cd pm_mm63) 1 = some (.iload_n 1, 1) := by decide +kernel
theorem pm_a63_2 : pm_as (pm_cd pm_mm63) 2 = some (.invokevirtual 213, 3) := by decide +kernel
theorem pm_a63_5 : pm_as (pm_cd pm_mm63) 5 = some (.ifCond .ne 5, 3) := by decide +kernel
theorem pm_a63_8 : pm_as (pm_cd pm_mm63) 8 = some (.iconst (-1), 1) := by decide +kernel
theorem pm_a63_9 : pm_as (pm_cd pm_mm63) 9 = some (.ireturn, 1) := by decide +kernel
theorem pm_a64_0 : pm_as (pm_cd pm_mm64) 0 = some (.aload_n 0, 1) := by decide +kernel
theorem pm_a64_1 : pm_as (pm_cd pm_mm64) 1 = some (.iload_n 1, 1) := by decide +kernel
theorem pm_a64_2 : pm_as (pm_cd pm_mm64) 2 = some (.invokevirtual 213, 3) := by decide +kernel
theorem pm_a64_5 : pm_as (pm_cd pm_mm64) 5 = some (.ifCond .eq 11, 3) := by decide +kernel
theorem pm_a64_16 : pm_as (pm_cd pm_mm64) 16 = some (.iconst (-1), 1) := by decide +kernel
theorem pm_a64_17 : pm_as (pm_cd pm_mm64) 17 = some (.ireturn, 1) := by decide +kernel
theorem pm_a65_0 : pm_as (pm_cd pm_mm65) 0 = some (.aload_n 0, 1) := by decide +kernel
theorem pm_a65_1 : pm_as (pm_cd pm_mm65) 1 = some (.iload_n 1, 1) := by decide +kernel
theorem pm_a65_2 : pm_as (pm_cd pm_mm65) 2 = some (.invokevirtual 213, 3) := by decide +kernel
theorem pm_a65_5 : pm_as (pm_cd pm_mm65) 5 = some (.ifCond .ne 5, 3) := by decide +kernel
theorem pm_a65_8 : pm_as (pm_cd pm_mm65) 8 = some (.iconst (-1), 1) := by decide +kernel
theorem pm_a65_9 : pm_as (pm_cd pm_mm65) 9 = some (.ireturn, 1) := by decide +kernel
theorem pm_a66_0 : pm_as (pm_cd pm_mm66) 0 = some (.aload_n 0, 1) := by decide +kernel
theorem pm_a66_1 : pm_as (pm_cd pm_mm66) 1 = some (.iload_n 1, 1) := by decide +kernel
theorem pm_a66_2 : pm_as (pm_cd pm_mm66) 2 = some (.invokevirtual 213, 3) := by decide +kernel
theorem pm_a66_5 : pm_as (pm_cd pm_mm66) 5 = some (.ifCond .eq 11, 3) := by decide +kernel
theorem pm_a66_16 : pm_as (pm_cd pm_mm66) 16 = some (.iconst (-1), 1) := by decide +kernel
theorem pm_a66_17 : pm_as (pm_cd pm_mm66) 17 = some (.ireturn, 1) := by decide +kernel
theorem pm_a67_0 : pm_as (pm_cd pm_mm67) 0 = some (.aload_n 0, 1) := by decide +kernel
theorem pm_a67_1 : pm_as (pm_cd pm_mm67) 1 = some (.iload_n 1, 1) := by decide +kernel
theorem pm_a67_2 : pm_as (pm_cd pm_mm67) 2 = some (.invokevirtual 213, 3) := by decide +kernel
theorem pm_a67_5 : pm_as (pm_cd pm_mm67) 5 = some (.ifCond .eq 15, 3) := by decide +kernel
theorem pm_a67_20 : pm_as (pm_cd pm_mm67) 20 = some (.iconst (-1), 1) := by decide +kernel
theorem pm_a67_21 : pm_as (pm_cd pm_mm67) 21 = some (.ireturn, 1) := by decide +kernel
theorem pm_a68_0 : pm_as (pm_cd pm_mm68) 0 = some (.aload_n 0, 1) := by decide +kernel
theorem pm_a68_1 : pm_as (pm_cd pm_mm68) 1 = some (.iload_n 1, 1) := by decide +kernel
theorem pm_a68_2 : pm_as (pm_cd pm_mm68) 2 = some (.invokevirtual 213, 3) := by decide +kernel
theorem pm_a68_5 : pm_as (pm_cd pm_mm68) 5 = some (.ifCond .eq 27, 3) := by decide +kernel
theorem pm_a68_32 : pm_as (pm_cd pm_mm68) 32 = some (.iconst (-1), 1) := by decide +kernel
theorem pm_a68_33 : pm_as (pm_cd pm_mm68) 33 = some (.ireturn, 1) := by decide +kernel
theorem pm_a69_0 : pm_as (pm_cd pm_mm69) 0 = some (.iload_n 1, 1) := by decide +kernel
theorem pm_a69_1 : pm_as (pm_cd pm_mm69) 1 = some (.ifCond .ne 10, 3) := by decide +kernel
theorem pm_a69_4 : pm_as (pm_cd pm_mm69) 4 = some (.aload_n 0, 1) := by decide +kernel
theorem pm_a69_5 : pm_as (pm_cd pm_mm69) 5 = some (.getfield 278, 3) := by decide +kernel
theorem pm_a69_8 : pm_as (pm_cd pm_mm69) 8 = some (.goto 16, 3) := by decide +kernel
theorem pm_a69_11 : pm_as (pm_cd pm_mm69) 11 = some (.iload_n 1, 1) := by decide +kernel
theorem pm_a69_12 : pm_as (pm_cd pm_mm69) 12 = some (.iconst 1, 1) := by decide +kernel
theorem pm_a69_13 : pm_as (pm_cd pm_mm69) 13 = some (.if_icmp .ne 10, 3) := by decide +kernel
theorem pm_a69_16 : pm_as (pm_cd pm_mm69) 16 = some (.aload_n 0, 1) := by decide +kernel
theorem pm_a69_17 : pm_as (pm_cd pm_mm69) 17 = some (.getfield 281, 3) := by decide +kernel
theorem pm_a69_20 : pm_as (pm_cd pm_mm69) 20 = some (.goto 4, 3) := by decide +kernel
theorem pm_a69_23 : pm_as (pm_cd pm_mm69) 23 = some (.iconst (-1), 1) := by decide +kernel
theorem pm_a69_24 : pm_as (pm_cd pm_mm69) 24 = some (.ireturn, 1) := by decide +kernel
theorem pm_a70_0 : pm_as (pm_cd pm_mm70) 0 = some (.aload_n 0, 1) := by decide +kernel
theorem pm_a70_1 : pm_as (pm_cd pm_mm70) 1 = some (.iload_n 1, 1) := by decide +kernel
theorem pm_a70_2 : pm_as (pm_cd pm_mm70) 2 = some (.invokevirtual 213, 3) := by decide +kernel
theorem pm_a70_5 : pm_as (pm_cd pm_mm70) 5 = some (.ifCond .eq 15, 3) := by decide +kernel
theorem pm_a70_20 : pm_as (pm_cd pm_mm70) 20 = some (.iconst (-1), 1) := by decide +kernel
theorem pm_a70_21 : pm_as (pm_cd pm_mm70) 21 = some (.ireturn, 1) := by decide +kernel
theorem pm_a71_0 : pm_as (pm_cd pm_mm71) 0 = some (.aload_n 0, 1) := by decide +kernel
theorem pm_a71_1 : pm_as (pm_cd pm_mm71) 1 = some (.iload_n 1, 1) := by decide +kernel
theorem pm_a71_2 : pm_as (pm_cd pm_mm71) 2 = some (.invokevirtual 213, 3) := by decide +kernel
theorem pm_a71_5 : pm_as (pm_cd pm_mm71) 5 = some (.ifCond .ne 5, 3) := by decide +kernel
theorem pm_a71_8 : pm_as (pm_cd pm_mm71) 8 = some (.iconst (-1), 1) := by decide +kernel
theorem pm_a71_9 : pm_as (pm_cd pm_mm71) 9 = some (.ireturn, 1) := by decide +kernel
theorem pm_a72_0 : pm_as (pm_cd pm_mm72) 0 = some (.aload_n 0, 1) := by decide +kernel
theorem pm_a72_1 : pm_as (pm_cd pm_mm72) 1 = some (.iload_n 1, 1) := by decide +kernel
theorem pm_a72_2 : pm_as (pm_cd pm_mm72) 2 = some (.invokevirtual 213, 3) := by decide +kernel
theorem pm_a72_5 : pm_as (pm_cd pm_mm72) 5 = some (.ifCond .ne 5, 3) := by decide +kernel
theorem pm_a72_8 : pm_as (pm_cd pm_mm72) 8 = some (.iconst (-1), 1) := by decide +kernel
theorem pm_a72_9 : pm_as (pm_cd pm_mm72) 9 = some (.ireturn, 1) := by decide +kernel
theorem pm_a73_0 : pm_as (pm_cd pm_mm73) 0 = some (.aload_n 0, 1) := by decide +kernel
theorem pm_a73_1 : pm_as (pm_cd pm_mm73) 1 = some (.iload_n 1, 1) := by decide +kernel
theorem pm_a73_2 : pm_as (pm_cd pm_mm73) 2 = some (.invokevirtual 213, 3) := by decide +kernel
theorem pm_a73_5 : pm_as (pm_cd pm_mm73) 5 = some (.ifCond .ne 5, 3) := by decide +kernel
theorem pm_a73_8 : pm_as (pm_cd pm_mm73) 8 = some (.iconst (-1), 1) := by decide +kernel
theorem pm_a73_9 : pm_as (pm_cd pm_mm73) 9 = some (.ireturn, 1) := by decide +kernel
theorem pm_a74_0 : pm_as (pm_cd pm_mm74) 0 = some (.aload_n 0, 1) := by decide +kernel
theorem pm_a74_1 : pm_as (pm_cd pm_mm74) 1 = some (.iload_n 1, 1) := by decide +kernel
theorem pm_a74_2 : pm_as (pm_cd pm_mm74) 2 = some (.invokevirtual 213, 3) := by decide +kernel
theorem pm_a74_5 : pm_as (pm_cd pm_mm74) 5 = some (.ifCond .eq 15, 3) := by decide +kernel
theorem pm_a74_20 : pm_as (pm_cd pm_mm74) 20 = some (.iconst (-1), 1) := by decide +kernel
theorem pm_a74_21 : pm_as (pm_cd pm_mm74) 21 = some (.ireturn, 1) := by decide +kernel
theorem pm_a75_0 : pm_as (pm_cd pm_mm75) 0 = some (.aload_n 0, 1) := by decide +kernel
theorem pm_a75_1 : pm_as (pm_cd pm_mm75) 1 = some (.iload_n 1, 1) := by decide +kernel
theorem pm_a75_2 : pm_as (pm_cd pm_mm75) 2 = some (.invokevirtual 213, 3) := by decide +kernel
theorem pm_a75_5 : pm_as (pm_cd pm_mm75) 5 = some (.ifCond .ne 5, 3) := by decide +kernel
theorem pm_a75_8 : pm_as (pm_cd pm_mm75) 8 = some (.iconst (-1), 1) := by decide +kernel
theorem pm_a75_9 : pm_as (pm_cd pm_mm75) 9 = some (.ireturn, 1) := by decide +kernel
theorem pm_a76_0 : pm_as (pm_cd pm_mm76) 0 = some (.iload_n 1, 1) := by decide +kernel
theorem pm_a76_1 : pm_as (pm_cd pm_mm76) 1 = some (.i2l, 1) := by decide +kernel
theorem pm_a76_2 : pm_as (pm_cd pm_mm76) 2 = some (.lconst 0, 1) := by decide +kernel
theorem pm_a76_3 : pm_as (pm_cd pm_mm76) 3 = some (.aload_n 0, 1) := by decide +kernel
theorem pm_a76_4 : pm_as (pm_cd pm_mm76) 4 = some (.getfield 332, 3) := by decide +kernel
theorem pm_a76_7 : pm_as (pm_cd pm_mm76) 7 = some (.iconst 1, 1) := by decide +kernel
theorem pm_a76_8 : pm_as (pm_cd pm_mm76) 8 = some (.isub, 1) := by decide +kernel
theorem pm_a76_9 : pm_as (pm_cd pm_mm76) 9 = some (.i2l, 1) := by decide +kernel
theorem pm_a76_10 : pm_as (pm_cd pm_mm76) 10 = some (.invokestatic 113, 3) := by decide +kernel
theorem pm_a76_13 : pm_as (pm_cd pm_mm76) 13 = some (.ifCond .eq 12, 3) := by decide +kernel
theorem pm_a76_25 : pm_as (pm_cd pm_mm76) 25 = some (.iconst (-1), 1) := by decide +kernel
theorem pm_a76_26 : pm_as (pm_cd pm_mm76) 26 = some (.ireturn, 1) := by decide +kernel
theorem pm_a77_0 : pm_as (pm_cd pm_mm77) 0 = some (.aload_n 0, 1) := by decide +kernel
theorem pm_a77_1 : pm_as (pm_cd pm_mm77) 1 = some (.iload_n 1, 1) := by decide +kernel
theorem pm_a77_2 : pm_as (pm_cd pm_mm77) 2 = some (.invokevirtual 213, 3) := by decide +kernel
theorem pm_a77_5 : pm_as (pm_cd pm_mm77) 5 = some (.ifCond .eq 15, 3) := by decide +kernel
theorem pm_a77_20 : pm_as (pm_cd pm_mm77) 20 = some (.iconst (-1), 1) := by decide +kernel
theorem pm_a77_21 : pm_as (pm_cd pm_mm77) 21 = some (.ireturn, 1) := by decide +kernel
theorem pm_a78_0 : pm_as (pm_cd pm_mm78) 0 = some (.aload_n 0, 1) := by decide +kernel
theorem pm_a78_1 : pm_as (pm_cd pm_mm78) 1 = some (.getfield 204, 3) := by decide +kernel
theorem pm_a78_4 : pm_as (pm_cd pm_mm78) 4 = some (.ifCond .ne 6, 3) := by decide +kernel
theorem pm_a78_7 : pm_as (pm_cd pm_mm78) 7 = some (.bipush (-4), 2) := by decide +kernel
theorem pm_a78_9 : pm_as (pm_cd pm_mm78) 9 = some (.ireturn, 1) := by decide +kernel
theorem pm_a79_0 : pm_as (pm_cd pm_mm79) 0 = some (.iconst 0, 1) := by decide +kernel
theorem pm_a79_1 : pm_as (pm_cd pm_mm79) 1 = some (.istore_n 2, 1) := by decide +kernel
theorem pm_a79_2 : pm_as (pm_cd pm_mm79) 2 = some (.iconst 0, 1) := by decide +kernel
theorem pm_a79_3 : pm_as (pm_cd pm_mm79) 3 = some (.istore_n 3, 1) := by decide +kernel
theorem pm_a79_4 : pm_as (pm_cd pm_mm79) 4 = some (.iload_n 3, 1) := by decide +kernel
theorem pm_a79_5 : pm_as (pm_cd pm_mm79) 5 = some (.aload_n 0, 1) := by decide +kernel
theorem pm_a79_6 : pm_as (pm_cd pm_mm79) 6 = some (.getfield 204, 3) := by decide +kernel
theorem pm_a79_9 : pm_as (pm_cd pm_mm79) 9 = some (.if_icmp .ge 18, 3) := by decide +kernel
theorem pm_a79_27 : pm_as (pm_cd pm_mm79) 27 = some (.iload_n 1, 1) := by decide +kernel
theorem pm_a79_28 : pm_as (pm_cd pm_mm79) 28 = some (.ifCond .ne 10, 3) := by decide +kernel
theorem pm_a79_31 : pm_as (pm_cd pm_mm79) 31 = some (.aload_n 0, 1) := by decide +kernel
theorem pm_a79_32 : pm_as (pm_cd pm_mm79) 32 = some (.getfield 204, 3) := by decide +kernel
theorem pm_a79_35 : pm_as (pm_cd pm_mm79) 35 = some (.goto 25, 3) := by decide +kernel
theorem pm_a79_38 : pm_as (pm_cd pm_mm79) 38 = some (.iload_n 1, 1) := by decide +kernel
theorem pm_a79_39 : pm_as (pm_cd pm_mm79) 39 = some (.iconst 1, 1) := by decide +kernel
theorem pm_a79_40 : pm_as (pm_cd pm_mm79) 40 = some (.if_icmp .ne 10, 3) := by decide +kernel
theorem pm_a79_43 : pm_as (pm_cd pm_mm79) 43 = some (.aload_n 0, 1) := by decide +kernel
theorem pm_a79_44 : pm_as (pm_cd pm_mm79) 44 = some (.getfield 105, 3) := by decide +kernel
theorem pm_a79_47 : pm_as (pm_cd pm_mm79) 47 = some (.goto 13, 3) := by decide +kernel
theorem pm_a79_50 : pm_as (pm_cd pm_mm79) 50 = some (.iload_n 1, 1) := by decide +kernel
theorem pm_a79_51 : pm_as (pm_cd pm_mm79) 51 = some (.iconst 2, 1) := by decide +kernel
theorem pm_a79_52 : pm_as (pm_cd pm_mm79) 52 = some (.if_icmp .ne 7, 3) := by decide +kernel
theorem pm_a79_55 : pm_as (pm_cd pm_mm79) 55 = some (.iload_n 2, 1) := by decide +kernel
theorem pm_a79_56 : pm_as (pm_cd pm_mm79) 56 = some (.goto 4, 3) := by decide +kernel
theorem pm_a79_59 : pm_as (pm_cd pm_mm79) 59 = some (.iconst (-1), 1) := by decide +kernel
theorem pm_a79_60 : pm_as (pm_cd pm_mm79) 60 = some (.ireturn, 1) := by decide +kernel
end
section
/-! the start: two objects are made; what lies then in the cells -/
def pm_H0 : List va_E := [.inr (8, [.ref 1, .ref 3, .ref 4, .ref 6, .ref 9, .ref 13, .ref 15, .null, .null, .int 0, .int 0, .int 0, .int 0]),
  .inr (4, [.ref 2, .int 0]),
  .inl (0, 600, .inl (fun _ => 0)),
  .inl (3, 32, .inr (.inr (.inr (.inr (fun _ => none))))),
  .inr (1, [.ref 5, .int 0, .int 0]),
  .inl (0, 500, .inl (fun _ => 0)),
  .inr (3, [.ref 7, .ref 8]),
  .inl (0, 502, .inl (fun _ => 0)),
  .inl (0, 502, .inl (fun _ => 0)),
  .inr (2, [.ref 10, .ref 11, .ref 12, .ref 1, .int 0, .int 0, .int 0, .int 0, .int 0, .int 0, .int 0, .int 0, .int 0]),
  .inl (0, 601, .inl (fun _ => 0)),
  .inl (0, 40, .inl (fun _ => 0)),
  .inl (0, 40, .inl (fun _ => 0)),
  .inr (5, [.ref 14, .int 0, .int 0, .int 0, .int 0, .int 0]),
  .inl (0, 500, .inl (fun _ => 0)),
  .inr (6, [.ref 6, .ref 16]),
  .inr (1, [.ref 17, .int 0, .int 0]),
  .inl (0, 500, .inl (fun _ => 0)),
  .inr (9, [.int 0, .ref 19, .ref 20, .ref 21, .int 0, .ref 22, .int 0, .ref 23, .ref 24, .int 0, .int 0, .int 0, .long 0, .int 0, .int 0, .ref 25, .ref 26, .ref 27, .int 0, .ref 28, .int 0, .int 0, .ref 29, .int 0, .ref 30, .ref 31, .ref 32, .ref 33, .int 0, .ref 34, .int 0, .int 0, .int 0, .ref 35, .ref 36, .ref 37, .ref 38, .ref 39, .ref 40, .ref 41, .ref 42, .ref 43, .ref 44, .ref 45, .ref 46, .int 0, .ref 47, .ref 48, .ref 49]),
  .inl (0, 32, .inl (fun _ => 0)),
  .inl (0, 16000, .inl (fun _ => 0)),
  .inl (0, 600, .inl (fun _ => 0)),
  .inl (0, 12000, .inl (fun _ => 0)),
  .inl (0, 12000, .inl (fun _ => 0)),
  .inl (0, 12000, .inl (fun _ => 0)),
  .inl (0, 90, .inl (fun _ => 0)),
  .inl (1, 90, .inl (fun _ => 0)),
  .inl (0, 90, .inl (fun _ => 0)),
  .inl (2, 41, .inr (.inl (fun _ => 0))),
  .inl (0, 6000, .inl (fun _ => 0)),
  .inl (1, 501, .inl (fun _ => 0)),
  .inl (1, 501, .inl (fun _ => 0)),
  .inl (0, 501, .inl (fun _ => 0)),
  .inl (0, 12000, .inl (fun _ => 0)),
  .inl (0, 12000, .inl (fun _ => 0)),
  .inl (0, 9000, .inl (fun _ => 0)),
  .inl (0, 9000, .inl (fun _ => 0)),
  .inl (0, 9000, .inl (fun _ => 0)),
  .inl (0, 20000, .inl (fun _ => 0)),
  .inl (0, 20000, .inl (fun _ => 0)),
  .inl (0, 9000, .inl (fun _ => 0)),
  .inl (0, 9000, .inl (fun _ => 0)),
  .inl (0, 500, .inl (fun _ => 0)),
  .inl (0, 500, .inl (fun _ => 0)),
  .inl (0, 501, .inl (fun _ => 0)),
  .inl (0, 501, .inl (fun _ => 0)),
  .inl (0, 500, .inl (fun _ => 0)),
  .inl (0, 500, .inl (fun _ => 0)),
  .inl (0, 9000, .inl (fun _ => 0)),
  .inl (0, 9000, .inl (fun _ => 0))]
def pm_L0 : pm_L := [(3, .int 0), (2, .ref 18), (1, .ref 0), (0, .retAddr 0)]
set_option maxHeartbeats 40000000 in
set_option maxRecDepth 200000 in
theorem pm_start (scr : Option (Nat × (Nat → Int32))) {Q : Option Value → List va_E → Nat → Nat → Prop} (k : pm_E scr 11 pm_mm0 18 pm_L0 [] pm_H0 50 194358 Q) : pm_E scr 11 pm_mm0 0 [(0, .retAddr 0)] [] [] 0 0 Q := by
  refine pm_e_nw (k2 := 0) pm_a0_0 rfl rfl rfl rfl rfl rfl rfl ?_
  show pm_E _ _ _ 3 [(0, .retAddr 0)] [.ref 0] _ _ _ _
  refine pm_e_sim pm_a0_3 rfl ?_
  show pm_E _ _ _ 4 [(0, .retAddr 0)] [.ref 0, .ref 0] _ _ _ _
  refine pm_e_call (T2 := pm_mm1) pm_a0_4 rfl rfl rfl rfl rfl rfl rfl rfl rfl ?_
  show pm_E _ _ _ 0 [(0, .ref 0)] [] _ _ _ _
  refine pm_e_sim pm_a1_0 rfl ?_
  show pm_E _ _ _ 1 [(0, .ref 0)] [.ref 0] _ _ _ _
  refine pm_e_nat pm_a1_1 rfl rfl rfl rfl rfl rfl ?_
  show pm_E _ _ _ 4 [(0, .ref 0)] [] _ _ _ _
  refine pm_e_sim pm_a1_4 rfl ?_
  show pm_E _ _ _ 5 [(0, .ref 0)] [.ref 0] _ _ _ _
  refine pm_e_nw (k2 := 1) pm_a1_5 rfl rfl rfl rfl rfl rfl rfl ?_
  show pm_E _ _ _ 8 [(0, .ref 0)] [.ref 1, .ref 0] _ _ _ _
  refine pm_e_sim pm_a1_8 rfl ?_
  show pm_E _ _ _ 9 [(0, .ref 0)] [.ref 1, .ref 1, .ref 0] _ _ _ _
  refine pm_e_call (T2 := pm_mm2) pm_a1_9 rfl rfl rfl rfl rfl rfl rfl rfl rfl ?_
  show pm_E _ _ _ 0 [(0, .ref 1)] [] _ _ _ _
  refine pm_e_sim pm_a2_0 rfl ?_
  show pm_E _ _ _ 1 [(0, .ref 1)] [.ref 1] _ _ _ _
  refine pm_e_nat pm_a2_1 rfl rfl rfl rfl rfl rfl ?_
  show pm_E _ _ _ 4 [(0, .ref 1)] [] _ _ _ _
  refine pm_e_sim pm_a2_4 rfl ?_
  show pm_E _ _ _ 5 [(0, .ref 1)] [.ref 1] _ _ _ _
  refine pm_e_sim pm_a2_5 rfl ?_
  refine pm_e_top (y := 600) (by decide +kernel) ?_
  show pm_E _ _ _ 8 [(0, .ref 1)] [.int 600, .ref 1] _ _ _ _
  refine pm_e_nw (k2 := 2) pm_a2_8 rfl rfl rfl rfl rfl rfl rfl ?_
  show pm_E _ _ _ 10 [(0, .ref 1)] [.ref 2, .ref 1] _ _ _ _
  refine pm_e_wr pm_a2_10 rfl rfl rfl rfl rfl ?_
  show pm_E _ _ _ 13 [(0, .ref 1)] [] _ _ _ _
  refine pm_e_ret pm_a2_13 rfl rfl rfl rfl rfl rfl rfl rfl ?_
  show pm_E _ _ _ 12 [(0, .ref 0)] [.ref 1, .ref 0] _ _ _ _
  refine pm_e_wr pm_a1_12 rfl rfl rfl rfl rfl ?_
  show pm_E _ _ _ 15 [(0, .ref 0)] [] _ _ _ _
  refine pm_e_sim pm_a1_15 rfl ?_
  show pm_E _ _ _ 16 [(0, .ref 0)] [.ref 0] _ _ _ _
  refine pm_e_sim pm_a1_16 rfl ?_
  refine pm_e_top (y := 32) (by decide +kernel) ?_
  show pm_E _ _ _ 18 [(0, .ref 0)] [.int 32, .ref 0] _ _ _ _
  refine pm_e_nw (k2 := 3) pm_a1_18 rfl rfl rfl rfl rfl rfl rfl ?_
  show pm_E _ _ _ 21 [(0, .ref 0)] [.ref 3, .ref 0] _ _ _ _
  refine pm_e_wr pm_a1_21 rfl rfl rfl rfl rfl ?_
  show pm_E _ _ _ 24 [(0, .ref 0)] [] _ _ _ _
  refine pm_e_sim pm_a1_24 rfl ?_
  show pm_E _ _ _ 25 [(0, .ref 0)] [.ref 0] _ _ _ _
  refine pm_e_nw (k2 := 4) pm_a1_25 rfl rfl rfl rfl rfl rfl rfl ?_
  show pm_E _ _ _ 28 [(0, .ref 0)] [.ref 4, .ref 0] _ _ _ _
  refine pm_e_sim pm_a1_28 rfl ?_
  show pm_E _ _ _ 29 [(0, .ref 0)] [.ref 4, .ref 4, .ref 0] _ _ _ _
  refine pm_e_sim pm_a1_29 rfl ?_
  refine pm_e_top (y := 500) (by decide +kernel) ?_
  show pm_E _ _ _ 32 [(0, .ref 0)] [.int 500, .ref 4, .ref 4, .ref 0] _ _ _ _
  refine pm_e_call (T2 := pm_mm3) pm_a1_32 rfl rfl rfl rfl rfl rfl rfl rfl rfl ?_
  show pm_E _ _ _ 0 [(0, .ref 4), (1, .int 500)] [] _ _ _ _
  refine pm_e_sim pm_a3_0 rfl ?_
  show pm_E _ _ _ 1 [(0, .ref 4), (1, .int 500)] [.ref 4] _ _ _ _
  refine pm_e_nat pm_a3_1 rfl rfl rfl rfl rfl rfl ?_
  show pm_E _ _ _ 4 [(0, .ref 4), (1, .int 500)] [] _ _ _ _
  refine pm_e_sim pm_a3_4 rfl ?_
  show pm_E _ _ _ 5 [(0, .ref 4), (1, .int 500)] [.ref 4] _ _ _ _
  refine pm_e_sim pm_a3_5 rfl ?_
  show pm_E _ _ _ 6 [(0, .ref 4), (1, .int 500)] [.int 500, .ref 4] _ _ _ _
  refine pm_e_sim pm_a3_6 rfl ?_
  refine pm_e_top (y := 0) (by decide +kernel) ?_
  show pm_E _ _ _ 7 [(0, .ref 4), (1, .int 500)] [.int 0, .int 500, .ref 4] _ _ _ _
  refine pm_e_nat pm_a3_7 rfl rfl rfl rfl rfl rfl ?_
  refine pm_e_top (y := 500) (by decide +kernel) ?_
  show pm_E _ _ _ 10 [(0, .ref 4), (1, .int 500)] [.int 500, .ref 4] _ _ _ _
  refine pm_e_nw (k2 := 5) pm_a3_10 rfl rfl rfl rfl rfl rfl rfl ?_
  show pm_E _ _ _ 12 [(0, .ref 4), (1, .int 500)] [.ref 5, .ref 4] _ _ _ _
  refine pm_e_wr pm_a3_12 rfl rfl rfl rfl rfl ?_
  show pm_E _ _ _ 15 [(0, .ref 4), (1, .int 500)] [] _ _ _ _
  refine pm_e_ret pm_a3_15 rfl rfl rfl rfl rfl rfl rfl rfl ?_
  show pm_E _ _ _ 35 [(0, .ref 0)] [.ref 4, .ref 0] _ _ _ _
  refine pm_e_wr pm_a1_35 rfl rfl rfl rfl rfl ?_
  show pm_E _ _ _ 38 [(0, .ref 0)] [] _ _ _ _
  refine pm_e_sim pm_a1_38 rfl ?_
  show pm_E _ _ _ 39 [(0, .ref 0)] [.ref 0] _ _ _ _
  refine pm_e_nw (k2 := 6) pm_a1_39 rfl rfl rfl rfl rfl rfl rfl ?_
  show pm_E _ _ _ 42 [(0, .ref 0)] [.ref 6, .ref 0] _ _ _ _
  refine pm_e_sim pm_a1_42 rfl ?_
  show pm_E _ _ _ 43 [(0, .ref 0)] [.ref 6, .ref 6, .ref 0] _ _ _ _
  refine pm_e_call (T2 := pm_mm4) pm_a1_43 rfl rfl rfl rfl rfl rfl rfl rfl rfl ?_
  show pm_E _ _ _ 0 [(0, .ref 6)] [] _ _ _ _
  refine pm_e_sim pm_a4_0 rfl ?_
  show pm_E _ _ _ 1 [(0, .ref 6)] [.ref 6] _ _ _ _
  refine pm_e_nat pm_a4_1 rfl rfl rfl rfl rfl rfl ?_
  show pm_E _ _ _ 4 [(0, .ref 6)] [] _ _ _ _
  refine pm_e_sim pm_a4_4 rfl ?_
  show pm_E _ _ _ 5 [(0, .ref 6)] [.ref 6] _ _ _ _
  refine pm_e_sim pm_a4_5 rfl ?_
  refine pm_e_top (y := 502) (by decide +kernel) ?_
  show pm_E _ _ _ 8 [(0, .ref 6)] [.int 502, .ref 6] _ _ _ _
  refine pm_e_nw (k2 := 7) pm_a4_8 rfl rfl rfl rfl rfl rfl rfl ?_
  show pm_E _ _ _ 10 [(0, .ref 6)] [.ref 7, .ref 6] _ _ _ _
  refine pm_e_wr pm_a4_10 rfl rfl rfl rfl rfl ?_
  show pm_E _ _ _ 13 [(0, .ref 6)] [] _ _ _ _
  refine pm_e_sim pm_a4_13 rfl ?_
  show pm_E _ _ _ 14 [(0, .ref 6)] [.ref 6] _ _ _ _
  refine pm_e_sim pm_a4_14 rfl ?_
  refine pm_e_top (y := 502) (by decide +kernel) ?_
  show pm_E _ _ _ 17 [(0, .ref 6)] [.int 502, .ref 6] _ _ _ _
  refine pm_e_nw (k2 := 8) pm_a4_17 rfl rfl rfl rfl rfl rfl rfl ?_
  show pm_E _ _ _ 19 [(0, .ref 6)] [.ref 8, .ref 6] _ _ _ _
  refine pm_e_wr pm_a4_19 rfl rfl rfl rfl rfl ?_
  show pm_E _ _ _ 22 [(0, .ref 6)] [] _ _ _ _
  refine pm_e_ret pm_a4_22 rfl rfl rfl rfl rfl rfl rfl rfl ?_
  show pm_E _ _ _ 46 [(0, .ref 0)] [.ref 6, .ref 0] _ _ _ _
  refine pm_e_wr pm_a1_46 rfl rfl rfl rfl rfl ?_
  show pm_E _ _ _ 49 [(0, .ref 0)] [] _ _ _ _
  refine pm_e_sim pm_a1_49 rfl ?_
  show pm_E _ _ _ 50 [(0, .ref 0)] [.ref 0] _ _ _ _
  refine pm_e_nw (k2 := 9) pm_a1_50 rfl rfl rfl rfl rfl rfl rfl ?_
  show pm_E _ _ _ 53 [(0, .ref 0)] [.ref 9, .ref 0] _ _ _ _
  refine pm_e_sim pm_a1_53 rfl ?_
  show pm_E _ _ _ 54 [(0, .ref 0)] [.ref 9, .ref 9, .ref 0] _ _ _ _
  refine pm_e_sim pm_a1_54 rfl ?_
  show pm_E _ _ _ 55 [(0, .ref 0)] [.ref 0, .ref 9, .ref 9, .ref 0] _ _ _ _
  refine pm_e_rd pm_a1_55 rfl rfl rfl ?_
  show pm_E _ _ _ 58 [(0, .ref 0)] [.ref 1, .ref 9, .ref 9, .ref 0] _ _ _ _
  refine pm_e_call (T2 := pm_mm5) pm_a1_58 rfl rfl rfl rfl rfl rfl rfl rfl rfl ?_
  show pm_E _ _ _ 0 [(0, .ref 9), (1, .ref 1)] [] _ _ _ _
  refine pm_e_sim pm_a5_0 rfl ?_
  show pm_E _ _ _ 1 [(0, .ref 9), (1, .ref 1)] [.ref 9] _ _ _ _
  refine pm_e_nat pm_a5_1 rfl rfl rfl rfl rfl rfl ?_
  show pm_E _ _ _ 4 [(0, .ref 9), (1, .ref 1)] [] _ _ _ _
  refine pm_e_sim pm_a5_4 rfl ?_
  show pm_E _ _ _ 5 [(0, .ref 9), (1, .ref 1)] [.ref 9] _ _ _ _
  refine pm_e_sim pm_a5_5 rfl ?_
  refine pm_e_top (y := 601) (by decide +kernel) ?_
  show pm_E _ _ _ 8 [(0, .ref 9), (1, .ref 1)] [.int 601, .ref 9] _ _ _ _
  refine pm_e_nw (k2 := 10) pm_a5_8 rfl rfl rfl rfl rfl rfl rfl ?_
  show pm_E _ _ _ 10 [(0, .ref 9), (1, .ref 1)] [.ref 10, .ref 9] _ _ _ _
  refine pm_e_wr pm_a5_10 rfl rfl rfl rfl rfl ?_
  show pm_E _ _ _ 13 [(0, .ref 9), (1, .ref 1)] [] _ _ _ _
  refine pm_e_sim pm_a5_13 rfl ?_
  show pm_E _ _ _ 14 [(0, .ref 9), (1, .ref 1)] [.ref 9] _ _ _ _
  refine pm_e_sim pm_a5_14 rfl ?_
  refine pm_e_top (y := 40) (by decide +kernel) ?_
  show pm_E _ _ _ 16 [(0, .ref 9), (1, .ref 1)] [.int 40, .ref 9] _ _ _ _
  refine pm_e_nw (k2 := 11) pm_a5_16 rfl rfl rfl rfl rfl rfl rfl ?_
  show pm_E _ _ _ 18 [(0, .ref 9), (1, .ref 1)] [.ref 11, .ref 9] _ _ _ _
  refine pm_e_wr pm_a5_18 rfl rfl rfl rfl rfl ?_
  show pm_E _ _ _ 21 [(0, .ref 9), (1, .ref 1)] [] _ _ _ _
  refine pm_e_sim pm_a5_21 rfl ?_
  show pm_E _ _ _ 22 [(0, .ref 9), (1, .ref 1)] [.ref 9] _ _ _ _
  refine pm_e_sim pm_a5_22 rfl ?_
  refine pm_e_top (y := 40) (by decide +kernel) ?_
  show pm_E _ _ _ 24 [(0, .ref 9), (1, .ref 1)] [.int 40, .ref 9] _ _ _ _
  refine pm_e_nw (k2 := 12) pm_a5_24 rfl rfl rfl rfl rfl rfl rfl ?_
  show pm_E _ _ _ 26 [(0, .ref 9), (1, .ref 1)] [.ref 12, .ref 9] _ _ _ _
  refine pm_e_wr pm_a5_26 rfl rfl rfl rfl rfl ?_
  show pm_E _ _ _ 29 [(0, .ref 9), (1, .ref 1)] [] _ _ _ _
  refine pm_e_sim pm_a5_29 rfl ?_
  show pm_E _ _ _ 30 [(0, .ref 9), (1, .ref 1)] [.ref 9] _ _ _ _
  refine pm_e_sim pm_a5_30 rfl ?_
  show pm_E _ _ _ 31 [(0, .ref 9), (1, .ref 1)] [.ref 1, .ref 9] _ _ _ _
  refine pm_e_wr pm_a5_31 rfl rfl rfl rfl rfl ?_
  show pm_E _ _ _ 34 [(0, .ref 9), (1, .ref 1)] [] _ _ _ _
  refine pm_e_ret pm_a5_34 rfl rfl rfl rfl rfl rfl rfl rfl ?_
  show pm_E _ _ _ 61 [(0, .ref 0)] [.ref 9, .ref 0] _ _ _ _
  refine pm_e_wr pm_a1_61 rfl rfl rfl rfl rfl ?_
  show pm_E _ _ _ 64 [(0, .ref 0)] [] _ _ _ _
  refine pm_e_sim pm_a1_64 rfl ?_
  show pm_E _ _ _ 65 [(0, .ref 0)] [.ref 0] _ _ _ _
  refine pm_e_nw (k2 := 13) pm_a1_65 rfl rfl rfl rfl rfl rfl rfl ?_
  show pm_E _ _ _ 68 [(0, .ref 0)] [.ref 13, .ref 0] _ _ _ _
  refine pm_e_sim pm_a1_68 rfl ?_
  show pm_E _ _ _ 69 [(0, .ref 0)] [.ref 13, .ref 13, .ref 0] _ _ _ _
  refine pm_e_call (T2 := pm_mm6) pm_a1_69 rfl rfl rfl rfl rfl rfl rfl rfl rfl ?_
  show pm_E _ _ _ 0 [(0, .ref 13)] [] _ _ _ _
  refine pm_e_sim pm_a6_0 rfl ?_
  show pm_E _ _ _ 1 [(0, .ref 13)] [.ref 13] _ _ _ _
  refine pm_e_nat pm_a6_1 rfl rfl rfl rfl rfl rfl ?_
  show pm_E _ _ _ 4 [(0, .ref 13)] [] _ _ _ _
  refine pm_e_sim pm_a6_4 rfl ?_
  show pm_E _ _ _ 5 [(0, .ref 13)] [.ref 13] _ _ _ _
  refine pm_e_sim pm_a6_5 rfl ?_
  refine pm_e_top (y := 500) (by decide +kernel) ?_
  show pm_E _ _ _ 8 [(0, .ref 13)] [.int 500, .ref 13] _ _ _ _
  refine pm_e_nw (k2 := 14) pm_a6_8 rfl rfl rfl rfl rfl rfl rfl ?_
  show pm_E _ _ _ 10 [(0, .ref 13)] [.ref 14, .ref 13] _ _ _ _
  refine pm_e_wr pm_a6_10 rfl rfl rfl rfl rfl ?_
  show pm_E _ _ _ 13 [(0, .ref 13)] [] _ _ _ _
  refine pm_e_ret pm_a6_13 rfl rfl rfl rfl rfl rfl rfl rfl ?_
  show pm_E _ _ _ 72 [(0, .ref 0)] [.ref 13, .ref 0] _ _ _ _
  refine pm_e_wr pm_a1_72 rfl rfl rfl rfl rfl ?_
  show pm_E _ _ _ 75 [(0, .ref 0)] [] _ _ _ _
  refine pm_e_sim pm_a1_75 rfl ?_
  show pm_E _ _ _ 76 [(0, .ref 0)] [.ref 0] _ _ _ _
  refine pm_e_nw (k2 := 15) pm_a1_76 rfl rfl rfl rfl rfl rfl rfl ?_
  show pm_E _ _ _ 79 [(0, .ref 0)] [.ref 15, .ref 0] _ _ _ _
  refine pm_e_sim pm_a1_79 rfl ?_
  show pm_E _ _ _ 80 [(0, .ref 0)] [.ref 15, .ref 15, .ref 0] _ _ _ _
  refine pm_e_sim pm_a1_80 rfl ?_
  show pm_E _ _ _ 81 [(0, .ref 0)] [.ref 0, .ref 15, .ref 15, .ref 0] _ _ _ _
  refine pm_e_rd pm_a1_81 rfl rfl rfl ?_
  show pm_E _ _ _ 84 [(0, .ref 0)] [.ref 6, .ref 15, .ref 15, .ref 0] _ _ _ _
  refine pm_e_call (T2 := pm_mm7) pm_a1_84 rfl rfl rfl rfl rfl rfl rfl rfl rfl ?_
  show pm_E _ _ _ 0 [(0, .ref 15), (1, .ref 6)] [] _ _ _ _
  refine pm_e_sim pm_a7_0 rfl ?_
  show pm_E _ _ _ 1 [(0, .ref 15), (1, .ref 6)] [.ref 15] _ _ _ _
  refine pm_e_nat pm_a7_1 rfl rfl rfl rfl rfl rfl ?_
  show pm_E _ _ _ 4 [(0, .ref 15), (1, .ref 6)] [] _ _ _ _
  refine pm_e_sim pm_a7_4 rfl ?_
  show pm_E _ _ _ 5 [(0, .ref 15), (1, .ref 6)] [.ref 15] _ _ _ _
  refine pm_e_nw (k2 := 16) pm_a7_5 rfl rfl rfl rfl rfl rfl rfl ?_
  show pm_E _ _ _ 8 [(0, .ref 15), (1, .ref 6)] [.ref 16, .ref 15] _ _ _ _
  refine pm_e_sim pm_a7_8 rfl ?_
  show pm_E _ _ _ 9 [(0, .ref 15), (1, .ref 6)] [.ref 16, .ref 16, .ref 15] _ _ _ _
  refine pm_e_sim pm_a7_9 rfl ?_
  refine pm_e_top (y := 500) (by decide +kernel) ?_
  show pm_E _ _ _ 12 [(0, .ref 15), (1, .ref 6)] [.int 500, .ref 16, .ref 16, .ref 15] _ _ _ _
  refine pm_e_call (T2 := pm_mm3) pm_a7_12 rfl rfl rfl rfl rfl rfl rfl rfl rfl ?_
  show pm_E _ _ _ 0 [(0, .ref 16), (1, .int 500)] [] _ _ _ _
  refine pm_e_sim pm_a3_0 rfl ?_
  show pm_E _ _ _ 1 [(0, .ref 16), (1, .int 500)] [.ref 16] _ _ _ _
  refine pm_e_nat pm_a3_1 rfl rfl rfl rfl rfl rfl ?_
  show pm_E _ _ _ 4 [(0, .ref 16), (1, .int 500)] [] _ _ _ _
  refine pm_e_sim pm_a3_4 rfl ?_
  show pm_E _ _ _ 5 [(0, .ref 16), (1, .int 500)] [.ref 16] _ _ _ _
  refine pm_e_sim pm_a3_5 rfl ?_
  show pm_E _ _ _ 6 [(0, .ref 16), (1, .int 500)] [.int 500, .ref 16] _ _ _ _
  refine pm_e_sim pm_a3_6 rfl ?_
  refine pm_e_top (y := 0) (by decide +kernel) ?_
  show pm_E _ _ _ 7 [(0, .ref 16), (1, .int 500)] [.int 0, .int 500, .ref 16] _ _ _ _
  refine pm_e_nat pm_a3_7 rfl rfl rfl rfl rfl rfl ?_
  refine pm_e_top (y := 500) (by decide +kernel) ?_
  show pm_E _ _ _ 10 [(0, .ref 16), (1, .int 500)] [.int 500, .ref 16] _ _ _ _
  refine pm_e_nw (k2 := 17) pm_a3_10 rfl rfl rfl rfl rfl rfl rfl ?_
  show pm_E _ _ _ 12 [(0, .ref 16), (1, .int 500)] [.ref 17, .ref 16] _ _ _ _
  refine pm_e_wr pm_a3_12 rfl rfl rfl rfl rfl ?_
  show pm_E _ _ _ 15 [(0, .ref 16), (1, .int 500)] [] _ _ _ _
  refine pm_e_ret pm_a3_15 rfl rfl rfl rfl rfl rfl rfl rfl ?_
  show pm_E _ _ _ 15 [(0, .ref 15), (1, .ref 6)] [.ref 16, .ref 15] _ _ _ _
  refine pm_e_wr pm_a7_15 rfl rfl rfl rfl rfl ?_
  show pm_E _ _ _ 18 [(0, .ref 15), (1, .ref 6)] [] _ _ _ _
  refine pm_e_sim pm_a7_18 rfl ?_
  show pm_E _ _ _ 19 [(0, .ref 15), (1, .ref 6)] [.ref 15] _ _ _ _
  refine pm_e_sim pm_a7_19 rfl ?_
  show pm_E _ _ _ 20 [(0, .ref 15), (1, .ref 6)] [.ref 6, .ref 15] _ _ _ _
  refine pm_e_wr pm_a7_20 rfl rfl rfl rfl rfl ?_
  show pm_E _ _ _ 23 [(0, .ref 15), (1, .ref 6)] [] _ _ _ _
  refine pm_e_ret pm_a7_23 rfl rfl rfl rfl rfl rfl rfl rfl ?_
  show pm_E _ _ _ 87 [(0, .ref 0)] [.ref 15, .ref 0] _ _ _ _
  refine pm_e_wr pm_a1_87 rfl rfl rfl rfl rfl ?_
  show pm_E _ _ _ 90 [(0, .ref 0)] [] _ _ _ _
  refine pm_e_ret pm_a1_90 rfl rfl rfl rfl rfl rfl rfl rfl ?_
  show pm_E _ _ _ 7 [(0, .retAddr 0)] [.ref 0] _ _ _ _
  refine pm_e_sim pm_a0_7 rfl ?_
  show pm_E _ _ _ 8 [(1, .ref 0), (0, .retAddr 0)] [] _ _ _ _
  refine pm_e_nw (k2 := 18) pm_a0_8 rfl rfl rfl rfl rfl rfl rfl ?_
  show pm_E _ _ _ 11 [(1, .ref 0), (0, .retAddr 0)] [.ref 18] _ _ _ _
  refine pm_e_sim pm_a0_11 rfl ?_
  show pm_E _ _ _ 12 [(1, .ref 0), (0, .retAddr 0)] [.ref 18, .ref 18] _ _ _ _
  refine pm_e_call (T2 := pm_mm46) pm_a0_12 rfl rfl rfl rfl rfl rfl rfl rfl rfl ?_
  show pm_E _ _ _ 0 [(0, .ref 18)] [] _ _ _ _
  refine pm_e_sim pm_a46_0 rfl ?_
  show pm_E _ _ _ 1 [(0, .ref 18)] [.ref 18] _ _ _ _
  refine pm_e_nat pm_a46_1 rfl rfl rfl rfl rfl rfl ?_
  show pm_E _ _ _ 4 [(0, .ref 18)] [] _ _ _ _
  refine pm_e_sim pm_a46_4 rfl ?_
  show pm_E _ _ _ 5 [(0, .ref 18)] [.ref 18] _ _ _ _
  refine pm_e_sim pm_a46_5 rfl ?_
  refine pm_e_top (y := 32) (by decide +kernel) ?_
  show pm_E _ _ _ 7 [(0, .ref 18)] [.int 32, .ref 18] _ _ _ _
  refine pm_e_nw (k2 := 19) pm_a46_7 rfl rfl rfl rfl rfl rfl rfl ?_
  show pm_E _ _ _ 9 [(0, .ref 18)] [.ref 19, .ref 18] _ _ _ _
  refine pm_e_wr pm_a46_9 rfl rfl rfl rfl rfl ?_
  show pm_E _ _ _ 12 [(0, .ref 18)] [] _ _ _ _
  refine pm_e_sim pm_a46_12 rfl ?_
  show pm_E _ _ _ 13 [(0, .ref 18)] [.ref 18] _ _ _ _
  refine pm_e_sim pm_a46_13 rfl ?_
  refine pm_e_top (y := 16000) (by decide +kernel) ?_
  show pm_E _ _ _ 16 [(0, .ref 18)] [.int 16000, .ref 18] _ _ _ _
  refine pm_e_nw (k2 := 20) pm_a46_16 rfl rfl rfl rfl rfl rfl rfl ?_
  show pm_E _ _ _ 18 [(0, .ref 18)] [.ref 20, .ref 18] _ _ _ _
  refine pm_e_wr pm_a46_18 rfl rfl rfl rfl rfl ?_
  show pm_E _ _ _ 21 [(0, .ref 18)] [] _ _ _ _
  refine pm_e_sim pm_a46_21 rfl ?_
  show pm_E _ _ _ 22 [(0, .ref 18)] [.ref 18] _ _ _ _
  refine pm_e_sim pm_a46_22 rfl ?_
  refine pm_e_top (y := 600) (by decide +kernel) ?_
  show pm_E _ _ _ 25 [(0, .ref 18)] [.int 600, .ref 18] _ _ _ _
  refine pm_e_nw (k2 := 21) pm_a46_25 rfl rfl rfl rfl rfl rfl rfl ?_
  show pm_E _ _ _ 27 [(0, .ref 18)] [.ref 21, .ref 18] _ _ _ _
  refine pm_e_wr pm_a46_27 rfl rfl rfl rfl rfl ?_
  show pm_E _ _ _ 30 [(0, .ref 18)] [] _ _ _ _
  refine pm_e_sim pm_a46_30 rfl ?_
  show pm_E _ _ _ 31 [(0, .ref 18)] [.ref 18] _ _ _ _
  refine pm_e_sim pm_a46_31 rfl ?_
  refine pm_e_top (y := 12000) (by decide +kernel) ?_
  show pm_E _ _ _ 34 [(0, .ref 18)] [.int 12000, .ref 18] _ _ _ _
  refine pm_e_nw (k2 := 22) pm_a46_34 rfl rfl rfl rfl rfl rfl rfl ?_
  show pm_E _ _ _ 36 [(0, .ref 18)] [.ref 22, .ref 18] _ _ _ _
  refine pm_e_wr pm_a46_36 rfl rfl rfl rfl rfl ?_
  show pm_E _ _ _ 39 [(0, .ref 18)] [] _ _ _ _
  refine pm_e_sim pm_a46_39 rfl ?_
  show pm_E _ _ _ 40 [(0, .ref 18)] [.ref 18] _ _ _ _
  refine pm_e_sim pm_a46_40 rfl ?_
  refine pm_e_top (y := 12000) (by decide +kernel) ?_
  show pm_E _ _ _ 43 [(0, .ref 18)] [.int 12000, .ref 18] _ _ _ _
  refine pm_e_nw (k2 := 23) pm_a46_43 rfl rfl rfl rfl rfl rfl rfl ?_
  show pm_E _ _ _ 45 [(0, .ref 18)] [.ref 23, .ref 18] _ _ _ _
  refine pm_e_wr pm_a46_45 rfl rfl rfl rfl rfl ?_
  show pm_E _ _ _ 48 [(0, .ref 18)] [] _ _ _ _
  refine pm_e_sim pm_a46_48 rfl ?_
  show pm_E _ _ _ 49 [(0, .ref 18)] [.ref 18] _ _ _ _
  refine pm_e_sim pm_a46_49 rfl ?_
  refine pm_e_top (y := 12000) (by decide +kernel) ?_
  show pm_E _ _ _ 52 [(0, .ref 18)] [.int 12000, .ref 18] _ _ _ _
  refine pm_e_nw (k2 := 24) pm_a46_52 rfl rfl rfl rfl rfl rfl rfl ?_
  show pm_E _ _ _ 54 [(0, .ref 18)] [.ref 24, .ref 18] _ _ _ _
  refine pm_e_wr pm_a46_54 rfl rfl rfl rfl rfl ?_
  show pm_E _ _ _ 57 [(0, .ref 18)] [] _ _ _ _
  refine pm_e_sim pm_a46_57 rfl ?_
  show pm_E _ _ _ 58 [(0, .ref 18)] [.ref 18] _ _ _ _
  refine pm_e_sim pm_a46_58 rfl ?_
  refine pm_e_top (y := 90) (by decide +kernel) ?_
  show pm_E _ _ _ 60 [(0, .ref 18)] [.int 90, .ref 18] _ _ _ _
  refine pm_e_nw (k2 := 25) pm_a46_60 rfl rfl rfl rfl rfl rfl rfl ?_
  show pm_E _ _ _ 62 [(0, .ref 18)] [.ref 25, .ref 18] _ _ _ _
  refine pm_e_wr pm_a46_62 rfl rfl rfl rfl rfl ?_
  show pm_E _ _ _ 65 [(0, .ref 18)] [] _ _ _ _
  refine pm_e_sim pm_a46_65 rfl ?_
  show pm_E _ _ _ 66 [(0, .ref 18)] [.ref 18] _ _ _ _
  refine pm_e_sim pm_a46_66 rfl ?_
  refine pm_e_top (y := 90) (by decide +kernel) ?_
  show pm_E _ _ _ 68 [(0, .ref 18)] [.int 90, .ref 18] _ _ _ _
  refine pm_e_nw (k2 := 26) pm_a46_68 rfl rfl rfl rfl rfl rfl rfl ?_
  show pm_E _ _ _ 70 [(0, .ref 18)] [.ref 26, .ref 18] _ _ _ _
  refine pm_e_wr pm_a46_70 rfl rfl rfl rfl rfl ?_
  show pm_E _ _ _ 73 [(0, .ref 18)] [] _ _ _ _
  refine pm_e_sim pm_a46_73 rfl ?_
  show pm_E _ _ _ 74 [(0, .ref 18)] [.ref 18] _ _ _ _
  refine pm_e_sim pm_a46_74 rfl ?_
  refine pm_e_top (y := 90) (by decide +kernel) ?_
  show pm_E _ _ _ 76 [(0, .ref 18)] [.int 90, .ref 18] _ _ _ _
  refine pm_e_nw (k2 := 27) pm_a46_76 rfl rfl rfl rfl rfl rfl rfl ?_
  show pm_E _ _ _ 78 [(0, .ref 18)] [.ref 27, .ref 18] _ _ _ _
  refine pm_e_wr pm_a46_78 rfl rfl rfl rfl rfl ?_
  show pm_E _ _ _ 81 [(0, .ref 18)] [] _ _ _ _
  refine pm_e_sim pm_a46_81 rfl ?_
  show pm_E _ _ _ 82 [(0, .ref 18)] [.ref 18] _ _ _ _
  refine pm_e_sim pm_a46_82 rfl ?_
  refine pm_e_top (y := 41) (by decide +kernel) ?_
  show pm_E _ _ _ 84 [(0, .ref 18)] [.int 41, .ref 18] _ _ _ _
  refine pm_e_nw (k2 := 28) pm_a46_84 rfl rfl rfl rfl rfl rfl rfl ?_
  show pm_E _ _ _ 86 [(0, .ref 18)] [.ref 28, .ref 18] _ _ _ _
  refine pm_e_wr pm_a46_86 rfl rfl rfl rfl rfl ?_
  show pm_E _ _ _ 89 [(0, .ref 18)] [] _ _ _ _
  refine pm_e_sim pm_a46_89 rfl ?_
  show pm_E _ _ _ 90 [(0, .ref 18)] [.ref 18] _ _ _ _
  refine pm_e_sim pm_a46_90 rfl ?_
  refine pm_e_top (y := 6000) (by decide +kernel) ?_
  show pm_E _ _ _ 93 [(0, .ref 18)] [.int 6000, .ref 18] _ _ _ _
  refine pm_e_nw (k2 := 29) pm_a46_93 rfl rfl rfl rfl rfl rfl rfl ?_
  show pm_E _ _ _ 95 [(0, .ref 18)] [.ref 29, .ref 18] _ _ _ _
  refine pm_e_wr pm_a46_95 rfl rfl rfl rfl rfl ?_
  show pm_E _ _ _ 98 [(0, .ref 18)] [] _ _ _ _
  refine pm_e_sim pm_a46_98 rfl ?_
  show pm_E _ _ _ 99 [(0, .ref 18)] [.ref 18] _ _ _ _
  refine pm_e_sim pm_a46_99 rfl ?_
  refine pm_e_top (y := 501) (by decide +kernel) ?_
  show pm_E _ _ _ 102 [(0, .ref 18)] [.int 501, .ref 18] _ _ _ _
  refine pm_e_nw (k2 := 30) pm_a46_102 rfl rfl rfl rfl rfl rfl rfl ?_
  show pm_E _ _ _ 104 [(0, .ref 18)] [.ref 30, .ref 18] _ _ _ _
  refine pm_e_wr pm_a46_104 rfl rfl rfl rfl rfl ?_
  show pm_E _ _ _ 107 [(0, .ref 18)] [] _ _ _ _
  refine pm_e_sim pm_a46_107 rfl ?_
  show pm_E _ _ _ 108 [(0, .ref 18)] [.ref 18] _ _ _ _
  refine pm_e_sim pm_a46_108 rfl ?_
  refine pm_e_top (y := 501) (by decide +kernel) ?_
  show pm_E _ _ _ 111 [(0, .ref 18)] [.int 501, .ref 18] _ _ _ _
  refine pm_e_nw (k2 := 31) pm_a46_111 rfl rfl rfl rfl rfl rfl rfl ?_
  show pm_E _ _ _ 113 [(0, .ref 18)] [.ref 31, .ref 18] _ _ _ _
  refine pm_e_wr pm_a46_113 rfl rfl rfl rfl rfl ?_
  show pm_E _ _ _ 116 [(0, .ref 18)] [] _ _ _ _
  refine pm_e_sim pm_a46_116 rfl ?_
  show pm_E _ _ _ 117 [(0, .ref 18)] [.ref 18] _ _ _ _
  refine pm_e_sim pm_a46_117 rfl ?_
  refine pm_e_top (y := 501) (by decide +kernel) ?_
  show pm_E _ _ _ 120 [(0, .ref 18)] [.int 501, .ref 18] _ _ _ _
  refine pm_e_nw (k2 := 32) pm_a46_120 rfl rfl rfl rfl rfl rfl rfl ?_
  show pm_E _ _ _ 122 [(0, .ref 18)] [.ref 32, .ref 18] _ _ _ _
  refine pm_e_wr pm_a46_122 rfl rfl rfl rfl rfl ?_
  show pm_E _ _ _ 125 [(0, .ref 18)] [] _ _ _ _
  refine pm_e_sim pm_a46_125 rfl ?_
  show pm_E _ _ _ 126 [(0, .ref 18)] [.ref 18] _ _ _ _
  refine pm_e_sim pm_a46_126 rfl ?_
  refine pm_e_top (y := 12000) (by decide +kernel) ?_
  show pm_E _ _ _ 129 [(0, .ref 18)] [.int 12000, .ref 18] _ _ _ _
  refine pm_e_nw (k2 := 33) pm_a46_129 rfl rfl rfl rfl rfl rfl rfl ?_
  show pm_E _ _ _ 131 [(0, .ref 18)] [.ref 33, .ref 18] _ _ _ _
  refine pm_e_wr pm_a46_131 rfl rfl rfl rfl rfl ?_
  show pm_E _ _ _ 134 [(0, .ref 18)] [] _ _ _ _
  refine pm_e_sim pm_a46_134 rfl ?_
  show pm_E _ _ _ 135 [(0, .ref 18)] [.ref 18] _ _ _ _
  refine pm_e_sim pm_a46_135 rfl ?_
  refine pm_e_top (y := 12000) (by decide +kernel) ?_
  show pm_E _ _ _ 138 [(0, .ref 18)] [.int 12000, .ref 18] _ _ _ _
  refine pm_e_nw (k2 := 34) pm_a46_138 rfl rfl rfl rfl rfl rfl rfl ?_
  show pm_E _ _ _ 140 [(0, .ref 18)] [.ref 34, .ref 18] _ _ _ _
  refine pm_e_wr pm_a46_140 rfl rfl rfl rfl rfl ?_
  show pm_E _ _ _ 143 [(0, .ref 18)] [] _ _ _ _
  refine pm_e_sim pm_a46_143 rfl ?_
  show pm_E _ _ _ 144 [(0, .ref 18)] [.ref 18] _ _ _ _
  refine pm_e_sim pm_a46_144 rfl ?_
  refine pm_e_top (y := 9000) (by decide +kernel) ?_
  show pm_E _ _ _ 147 [(0, .ref 18)] [.int 9000, .ref 18] _ _ _ _
  refine pm_e_nw (k2 := 35) pm_a46_147 rfl rfl rfl rfl rfl rfl rfl ?_
  show pm_E _ _ _ 149 [(0, .ref 18)] [.ref 35, .ref 18] _ _ _ _
  refine pm_e_wr pm_a46_149 rfl rfl rfl rfl rfl ?_
  show pm_E _ _ _ 152 [(0, .ref 18)] [] _ _ _ _
  refine pm_e_sim pm_a46_152 rfl ?_
  show pm_E _ _ _ 153 [(0, .ref 18)] [.ref 18] _ _ _ _
  refine pm_e_sim pm_a46_153 rfl ?_
  refine pm_e_top (y := 9000) (by decide +kernel) ?_
  show pm_E _ _ _ 156 [(0, .ref 18)] [.int 9000, .ref 18] _ _ _ _
  refine pm_e_nw (k2 := 36) pm_a46_156 rfl rfl rfl rfl rfl rfl rfl ?_
  show pm_E _ _ _ 158 [(0, .ref 18)] [.ref 36, .ref 18] _ _ _ _
  refine pm_e_wr pm_a46_158 rfl rfl rfl rfl rfl ?_
  show pm_E _ _ _ 161 [(0, .ref 18)] [] _ _ _ _
  refine pm_e_sim pm_a46_161 rfl ?_
  show pm_E _ _ _ 162 [(0, .ref 18)] [.ref 18] _ _ _ _
  refine pm_e_sim pm_a46_162 rfl ?_
  refine pm_e_top (y := 9000) (by decide +kernel) ?_
  show pm_E _ _ _ 165 [(0, .ref 18)] [.int 9000, .ref 18] _ _ _ _
  refine pm_e_nw (k2 := 37) pm_a46_165 rfl rfl rfl rfl rfl rfl rfl ?_
  show pm_E _ _ _ 167 [(0, .ref 18)] [.ref 37, .ref 18] _ _ _ _
  refine pm_e_wr pm_a46_167 rfl rfl rfl rfl rfl ?_
  show pm_E _ _ _ 170 [(0, .ref 18)] [] _ _ _ _
  refine pm_e_sim pm_a46_170 rfl ?_
  show pm_E _ _ _ 171 [(0, .ref 18)] [.ref 18] _ _ _ _
  refine pm_e_sim pm_a46_171 rfl ?_
  refine pm_e_top (y := 20000) (by decide +kernel) ?_
  show pm_E _ _ _ 174 [(0, .ref 18)] [.int 20000, .ref 18] _ _ _ _
  refine pm_e_nw (k2 := 38) pm_a46_174 rfl rfl rfl rfl rfl rfl rfl ?_
  show pm_E _ _ _ 176 [(0, .ref 18)] [.ref 38, .ref 18] _ _ _ _
  refine pm_e_wr pm_a46_176 rfl rfl rfl rfl rfl ?_
  show pm_E _ _ _ 179 [(0, .ref 18)] [] _ _ _ _
  refine pm_e_sim pm_a46_179 rfl ?_
  show pm_E _ _ _ 180 [(0, .ref 18)] [.ref 18] _ _ _ _
  refine pm_e_sim pm_a46_180 rfl ?_
  refine pm_e_top (y := 20000) (by decide +kernel) ?_
  show pm_E _ _ _ 183 [(0, .ref 18)] [.int 20000, .ref 18] _ _ _ _
  refine pm_e_nw (k2 := 39) pm_a46_183 rfl rfl rfl rfl rfl rfl rfl ?_
  show pm_E _ _ _ 185 [(0, .ref 18)] [.ref 39, .ref 18] _ _ _ _
  refine pm_e_wr pm_a46_185 rfl rfl rfl rfl rfl ?_
  show pm_E _ _ _ 188 [(0, .ref 18)] [] _ _ _ _
  refine pm_e_sim pm_a46_188 rfl ?_
  show pm_E _ _ _ 189 [(0, .ref 18)] [.ref 18] _ _ _ _
  refine pm_e_sim pm_a46_189 rfl ?_
  refine pm_e_top (y := 9000) (by decide +kernel) ?_
  show pm_E _ _ _ 192 [(0, .ref 18)] [.int 9000, .ref 18] _ _ _ _
  refine pm_e_nw (k2 := 40) pm_a46_192 rfl rfl rfl rfl rfl rfl rfl ?_
  show pm_E _ _ _ 194 [(0, .ref 18)] [.ref 40, .ref 18] _ _ _ _
  refine pm_e_wr pm_a46_194 rfl rfl rfl rfl rfl ?_
  show pm_E _ _ _ 197 [(0, .ref 18)] [] _ _ _ _
  refine pm_e_sim pm_a46_197 rfl ?_
  show pm_E _ _ _ 198 [(0, .ref 18)] [.ref 18] _ _ _ _
  refine pm_e_sim pm_a46_198 rfl ?_
  refine pm_e_top (y := 9000) (by decide +kernel) ?_
  show pm_E _ _ _ 201 [(0, .ref 18)] [.int 9000, .ref 18] _ _ _ _
  refine pm_e_nw (k2 := 41) pm_a46_201 rfl rfl rfl rfl rfl rfl rfl ?_
  show pm_E _ _ _ 203 [(0, .ref 18)] [.ref 41, .ref 18] _ _ _ _
  refine pm_e_wr pm_a46_203 rfl rfl rfl rfl rfl ?_
  show pm_E _ _ _ 206 [(0, .ref 18)] [] _ _ _ _
  refine pm_e_sim pm_a46_206 rfl ?_
  show pm_E _ _ _ 207 [(0, .ref 18)] [.ref 18] _ _ _ _
  refine pm_e_sim pm_a46_207 rfl ?_
  refine pm_e_top (y := 500) (by decide +kernel) ?_
  show pm_E _ _ _ 210 [(0, .ref 18)] [.int 500, .ref 18] _ _ _ _
  refine pm_e_nw (k2 := 42) pm_a46_210 rfl rfl rfl rfl rfl rfl rfl ?_
  show pm_E _ _ _ 212 [(0, .ref 18)] [.ref 42, .ref 18] _ _ _ _
  refine pm_e_wr pm_a46_212 rfl rfl rfl rfl rfl ?_
  show pm_E _ _ _ 215 [(0, .ref 18)] [] _ _ _ _
  refine pm_e_sim pm_a46_215 rfl ?_
  show pm_E _ _ _ 216 [(0, .ref 18)] [.ref 18] _ _ _ _
  refine pm_e_sim pm_a46_216 rfl ?_
  refine pm_e_top (y := 500) (by decide +kernel) ?_
  show pm_E _ _ _ 219 [(0, .ref 18)] [.int 500, .ref 18] _ _ _ _
  refine pm_e_nw (k2 := 43) pm_a46_219 rfl rfl rfl rfl rfl rfl rfl ?_
  show pm_E _ _ _ 221 [(0, .ref 18)] [.ref 43, .ref 18] _ _ _ _
  refine pm_e_wr pm_a46_221 rfl rfl rfl rfl rfl ?_
  show pm_E _ _ _ 224 [(0, .ref 18)] [] _ _ _ _
  refine pm_e_sim pm_a46_224 rfl ?_
  show pm_E _ _ _ 225 [(0, .ref 18)] [.ref 18] _ _ _ _
  refine pm_e_sim pm_a46_225 rfl ?_
  refine pm_e_top (y := 501) (by decide +kernel) ?_
  show pm_E _ _ _ 228 [(0, .ref 18)] [.int 501, .ref 18] _ _ _ _
  refine pm_e_nw (k2 := 44) pm_a46_228 rfl rfl rfl rfl rfl rfl rfl ?_
  show pm_E _ _ _ 230 [(0, .ref 18)] [.ref 44, .ref 18] _ _ _ _
  refine pm_e_wr pm_a46_230 rfl rfl rfl rfl rfl ?_
  show pm_E _ _ _ 233 [(0, .ref 18)] [] _ _ _ _
  refine pm_e_sim pm_a46_233 rfl ?_
  show pm_E _ _ _ 234 [(0, .ref 18)] [.ref 18] _ _ _ _
  refine pm_e_sim pm_a46_234 rfl ?_
  refine pm_e_top (y := 501) (by decide +kernel) ?_
  show pm_E _ _ _ 237 [(0, .ref 18)] [.int 501, .ref 18] _ _ _ _
  refine pm_e_nw (k2 := 45) pm_a46_237 rfl rfl rfl rfl rfl rfl rfl ?_
  show pm_E _ _ _ 239 [(0, .ref 18)] [.ref 45, .ref 18] _ _ _ _
  refine pm_e_wr pm_a46_239 rfl rfl rfl rfl rfl ?_
  show pm_E _ _ _ 242 [(0, .ref 18)] [] _ _ _ _
  refine pm_e_sim pm_a46_242 rfl ?_
  show pm_E _ _ _ 243 [(0, .ref 18)] [.ref 18] _ _ _ _
  refine pm_e_sim pm_a46_243 rfl ?_
  refine pm_e_top (y := 500) (by decide +kernel) ?_
  show pm_E _ _ _ 246 [(0, .ref 18)] [.int 500, .ref 18] _ _ _ _
  refine pm_e_nw (k2 := 46) pm_a46_246 rfl rfl rfl rfl rfl rfl rfl ?_
  show pm_E _ _ _ 248 [(0, .ref 18)] [.ref 46, .ref 18] _ _ _ _
  refine pm_e_wr pm_a46_248 rfl rfl rfl rfl rfl ?_
  show pm_E _ _ _ 251 [(0, .ref 18)] [] _ _ _ _
  refine pm_e_sim pm_a46_251 rfl ?_
  show pm_E _ _ _ 252 [(0, .ref 18)] [.ref 18] _ _ _ _
  refine pm_e_sim pm_a46_252 rfl ?_
  refine pm_e_top (y := 500) (by decide +kernel) ?_
  show pm_E _ _ _ 255 [(0, .ref 18)] [.int 500, .ref 18] _ _ _ _
  refine pm_e_nw (k2 := 47) pm_a46_255 rfl rfl rfl rfl rfl rfl rfl ?_
  show pm_E _ _ _ 257 [(0, .ref 18)] [.ref 47, .ref 18] _ _ _ _
  refine pm_e_wr pm_a46_257 rfl rfl rfl rfl rfl ?_
  show pm_E _ _ _ 260 [(0, .ref 18)] [] _ _ _ _
  refine pm_e_sim pm_a46_260 rfl ?_
  show pm_E _ _ _ 261 [(0, .ref 18)] [.ref 18] _ _ _ _
  refine pm_e_sim pm_a46_261 rfl ?_
  refine pm_e_top (y := 9000) (by decide +kernel) ?_
  show pm_E _ _ _ 264 [(0, .ref 18)] [.int 9000, .ref 18] _ _ _ _
  refine pm_e_nw (k2 := 48) pm_a46_264 rfl rfl rfl rfl rfl rfl rfl ?_
  show pm_E _ _ _ 266 [(0, .ref 18)] [.ref 48, .ref 18] _ _ _ _
  refine pm_e_wr pm_a46_266 rfl rfl rfl rfl rfl ?_
  show pm_E _ _ _ 269 [(0, .ref 18)] [] _ _ _ _
  refine pm_e_sim pm_a46_269 rfl ?_
  show pm_E _ _ _ 270 [(0, .ref 18)] [.ref 18] _ _ _ _
  refine pm_e_sim pm_a46_270 rfl ?_
  refine pm_e_top (y := 9000) (by decide +kernel) ?_
  show pm_E _ _ _ 273 [(0, .ref 18)] [.int 9000, .ref 18] _ _ _ _
  refine pm_e_nw (k2 := 49) pm_a46_273 rfl rfl rfl rfl rfl rfl rfl ?_
  show pm_E _ _ _ 275 [(0, .ref 18)] [.ref 49, .ref 18] _ _ _ _
  refine pm_e_wr pm_a46_275 rfl rfl rfl rfl rfl ?_
  show pm_E _ _ _ 278 [(0, .ref 18)] [] _ _ _ _
  refine pm_e_ret pm_a46_278 rfl rfl rfl rfl rfl rfl rfl rfl ?_
  show pm_E _ _ _ 15 [(1, .ref 0), (0, .retAddr 0)] [.ref 18] _ _ _ _
  refine pm_e_sim pm_a0_15 rfl ?_
  show pm_E _ _ _ 16 [(2, .ref 18), (1, .ref 0), (0, .retAddr 0)] [] _ _ _ _
  refine pm_e_sim pm_a0_16 rfl ?_
  refine pm_e_top (y := 0) (by decide +kernel) ?_
  show pm_E _ _ _ 17 [(2, .ref 18), (1, .ref 0), (0, .retAddr 0)] [.int 0] _ _ _ _
  refine pm_e_sim pm_a0_17 rfl ?_
  show pm_E _ _ _ 18 [(3, .int 0), (2, .ref 18), (1, .ref 0), (0, .retAddr 0)] [] _ _ _ _
  exact k
set_option maxHeartbeats 40000000 in
set_option maxRecDepth 200000 in
theorem pm_short0 (xs : Nat → Int32) {Q : Option Value → List va_E → Nat → Nat → Prop} (hQ : ∀ ph c n, c ≤ 600000 → n ≤ 7302250 → Q (some (.int 1)) ph c n) : pm_E (some (0, xs)) 11 pm_mm0 18 pm_L0 [] pm_H0 50 194358 Q := by
  refine pm_e_sim pm_a0_18 rfl ?_
  show pm_E _ _ _ 19 [(3, .int 0), (2, .ref 18), (1, .ref 0), (0, .retAddr 0)] [.int 0] _ _ _ _
  refine pm_e_sim pm_a0_19 rfl ?_
  show pm_E _ _ _ 20 [(3, .int 0), (2, .ref 18), (1, .ref 0), (0, .retAddr 0)] [.retAddr 0, .int 0] _ _ _ _
  refine pm_e_rd pm_a0_20 rfl rfl rfl ?_
  dsimp only
  refine pm_e_top (y := 0) (by decide +kernel) ?_
  show pm_E _ _ _ 21 [(3, .int 0), (2, .ref 18), (1, .ref 0), (0, .retAddr 0)] [.int 0, .int 0] _ _ _ _
  refine pm_e_sim pm_a0_21 rfl ?_
  refine pm_e_top (y := 6) (by decide +kernel) ?_
  show pm_E _ _ _ 23 [(3, .int 0), (2, .ref 18), (1, .ref 0), (0, .retAddr 0)] [.int 6, .int 0, .int 0] _ _ _ _
  refine pm_e_sim pm_a0_23 rfl ?_
  refine pm_e_top (y := (-6)) (by decide +kernel) ?_
  show pm_E _ _ _ 24 [(3, .int 0), (2, .ref 18), (1, .ref 0), (0, .retAddr 0)] [.int (-6), .int 0] _ _ _ _
  refine pm_e_ict pm_a0_24 rfl (by decide +kernel) ?_
  show pm_E _ _ _ 785 [(3, .int 0), (2, .ref 18), (1, .ref 0), (0, .retAddr 0)] [] _ _ _ _
  refine pm_e_sim pm_a0_785 rfl ?_
  refine pm_e_top (y := 1) (by decide +kernel) ?_
  show pm_E _ _ _ 786 [(3, .int 0), (2, .ref 18), (1, .ref 0), (0, .retAddr 0)] [.int 1] _ _ _ _
  refine pm_e_ret pm_a0_786 rfl rfl rfl rfl rfl rfl rfl rfl ?_
  exact hQ _ _ _ (by decide +kernel) (by decide +kernel)
set_option maxHeartbeats 40000000 in
set_option maxRecDepth 200000 in
theorem pm_short1 (xs : Nat → Int32) {Q : Option Value → List va_E → Nat → Nat → Prop} (hQ : ∀ ph c n, c ≤ 600000 → n ≤ 7302250 → Q (some (.int 1)) ph c n) : pm_E (some (1, xs)) 11 pm_mm0 18 pm_L0 [] pm_H0 50 194358 Q := by
  refine pm_e_sim pm_a0_18 rfl ?_
  show pm_E _ _ _ 19 [(3, .int 0), (2, .ref 18), (1, .ref 0), (0, .retAddr 0)] [.int 0] _ _ _ _
  refine pm_e_sim pm_a0_19 rfl ?_
  show pm_E _ _ _ 20 [(3, .int 0), (2, .ref 18), (1, .ref 0), (0, .retAddr 0)] [.retAddr 0, .int 0] _ _ _ _
  refine pm_e_rd pm_a0_20 rfl rfl rfl ?_
  dsimp only
  refine pm_e_top (y := 1) (by decide +kernel) ?_
  show pm_E _ _ _ 21 [(3, .int 0), (2, .ref 18), (1, .ref 0), (0, .retAddr 0)] [.int 1, .int 0] _ _ _ _
  refine pm_e_sim pm_a0_21 rfl ?_
  refine pm_e_top (y := 6) (by decide +kernel) ?_
  show pm_E _ _ _ 23 [(3, .int 0), (2, .ref 18), (1, .ref 0), (0, .retAddr 0)] [.int 6, .int 1, .int 0] _ _ _ _
  refine pm_e_sim pm_a0_23 rfl ?_
  refine pm_e_top (y := (-5)) (by decide +kernel) ?_
  show pm_E _ _ _ 24 [(3, .int 0), (2, .ref 18), (1, .ref 0), (0, .retAddr 0)] [.int (-5), .int 0] _ _ _ _
  refine pm_e_ict pm_a0_24 rfl (by decide +kernel) ?_
  show pm_E _ _ _ 785 [(3, .int 0), (2, .ref 18), (1, .ref 0), (0, .retAddr 0)] [] _ _ _ _
  refine pm_e_sim pm_a0_785 rfl ?_
  refine pm_e_top (y := 1) (by decide +kernel) ?_
  show pm_E _ _ _ 786 [(3, .int 0), (2, .ref 18), (1, .ref 0), (0, .retAddr 0)] [.int 1] _ _ _ _
  refine pm_e_ret pm_a0_786 rfl rfl rfl rfl rfl rfl rfl rfl ?_
  exact hQ _ _ _ (by decide +kernel) (by decide +kernel)
set_option maxHeartbeats 40000000 in
set_option maxRecDepth 200000 in
theorem pm_short2 (xs : Nat → Int32) {Q : Option Value → List va_E → Nat → Nat → Prop} (hQ : ∀ ph c n, c ≤ 600000 → n ≤ 7302250 → Q (some (.int 1)) ph c n) : pm_E (some (2, xs)) 11 pm_mm0 18 pm_L0 [] pm_H0 50 194358 Q := by
  refine pm_e_sim pm_a0_18 rfl ?_
  show pm_E _ _ _ 19 [(3, .int 0), (2, .ref 18), (1, .ref 0), (0, .retAddr 0)] [.int 0] _ _ _ _
  refine pm_e_sim pm_a0_19 rfl ?_
  show pm_E _ _ _ 20 [(3, .int 0), (2, .ref 18), (1, .ref 0), (0, .retAddr 0)] [.retAddr 0, .int 0] _ _ _ _
  refine pm_e_rd pm_a0_20 rfl rfl rfl ?_
  dsimp only
  refine pm_e_top (y := 2) (by decide +kernel) ?_
  show pm_E _ _ _ 21 [(3, .int 0), (2, .ref 18), (1, .ref 0), (0, .retAddr 0)] [.int 2, .int 0] _ _ _ _
  refine pm_e_sim pm_a0_21 rfl ?_
  refine pm_e_top (y := 6) (by decide +kernel) ?_
  show pm_E _ _ _ 23 [(3, .int 0), (2, .ref 18), (1, .ref 0), (0, .retAddr 0)] [.int 6, .int 2, .int 0] _ _ _ _
  refine pm_e_sim pm_a0_23 rfl ?_
  refine pm_e_top (y := (-4)) (by decide +kernel) ?_
  show pm_E _ _ _ 24 [(3, .int 0), (2, .ref 18), (1, .ref 0), (0, .retAddr 0)] [.int (-4), .int 0] _ _ _ _
  refine pm_e_ict pm_a0_24 rfl (by decide +kernel) ?_
  show pm_E _ _ _ 785 [(3, .int 0), (2, .ref 18), (1, .ref 0), (0, .retAddr 0)] [] _ _ _ _
  refine pm_e_sim pm_a0_785 rfl ?_
  refine pm_e_top (y := 1) (by decide +kernel) ?_
  show pm_E _ _ _ 786 [(3, .int 0), (2, .ref 18), (1, .ref 0), (0, .retAddr 0)] [.int 1] _ _ _ _
  refine pm_e_ret pm_a0_786 rfl rfl rfl rfl rfl rfl rfl rfl ?_
  exact hQ _ _ _ (by decide +kernel) (by decide +kernel)
set_option maxHeartbeats 40000000 in
set_option maxRecDepth 200000 in
theorem pm_short3 (xs : Nat → Int32) {Q : Option Value → List va_E → Nat → Nat → Prop} (hQ : ∀ ph c n, c ≤ 600000 → n ≤ 7302250 → Q (some (.int 1)) ph c n) : pm_E (some (3, xs)) 11 pm_mm0 18 pm_L0 [] pm_H0 50 194358 Q := by
  refine pm_e_sim pm_a0_18 rfl ?_
  show pm_E _ _ _ 19 [(3, .int 0), (2, .ref 18), (1, .ref 0), (0, .retAddr 0)] [.int 0] _ _ _ _
  refine pm_e_sim pm_a0_19 rfl ?_
  show pm_E _ _ _ 20 [(3, .int 0), (2, .ref 18), (1, .ref 0), (0, .retAddr 0)] [.retAddr 0, .int 0] _ _ _ _
  refine pm_e_rd pm_a0_20 rfl rfl rfl ?_
  dsimp only
  refine pm_e_top (y := 3) (by decide +kernel) ?_
  show pm_E _ _ _ 21 [(3, .int 0), (2, .ref 18), (1, .ref 0), (0, .retAddr 0)] [.int 3, .int 0] _ _ _ _
  refine pm_e_sim pm_a0_21 rfl ?_
  refine pm_e_top (y := 6) (by decide +kernel) ?_
  show pm_E _ _ _ 23 [(3, .int 0), (2, .ref 18), (1, .ref 0), (0, .retAddr 0)] [.int 6, .int 3, .int 0] _ _ _ _
  refine pm_e_sim pm_a0_23 rfl ?_
  refine pm_e_top (y := (-3)) (by decide +kernel) ?_
  show pm_E _ _ _ 24 [(3, .int 0), (2, .ref 18), (1, .ref 0), (0, .retAddr 0)] [.int (-3), .int 0] _ _ _ _
  refine pm_e_ict pm_a0_24 rfl (by decide +kernel) ?_
  show pm_E _ _ _ 785 [(3, .int 0), (2, .ref 18), (1, .ref 0), (0, .retAddr 0)] [] _ _ _ _
  refine pm_e_sim pm_a0_785 rfl ?_
  refine pm_e_top (y := 1) (by decide +kernel) ?_
  show pm_E _ _ _ 786 [(3, .int 0), (2, .ref 18), (1, .ref 0), (0, .retAddr 0)] [.int 1] _ _ _ _
  refine pm_e_ret pm_a0_786 rfl rfl rfl rfl rfl rfl rfl rfl ?_
  exact hQ _ _ _ (by decide +kernel) (by decide +kernel)
set_option maxHeartbeats 40000000 in
set_option maxRecDepth 200000 in
theorem pm_short4 (xs : Nat → Int32) {Q : Option Value → List va_E → Nat → Nat → Prop} (hQ : ∀ ph c n, c ≤ 600000 → n ≤ 7302250 → Q (some (.int 1)) ph c n) : pm_E (some (4, xs)) 11 pm_mm0 18 pm_L0 [] pm_H0 50 194358 Q := by
  refine pm_e_sim pm_a0_18 rfl ?_
  show pm_E _ _ _ 19 [(3, .int 0), (2, .ref 18), (1, .ref 0), (0, .retAddr 0)] [.int 0] _ _ _ _
  refine pm_e_sim pm_a0_19 rfl ?_
  show pm_E _ _ _ 20 [(3, .int 0), (2, .ref 18), (1, .ref 0), (0, .retAddr 0)] [.retAddr 0, .int 0] _ _ _ _
  refine pm_e_rd pm_a0_20 rfl rfl rfl ?_
  dsimp only
  refine pm_e_top (y := 4) (by decide +kernel) ?_
  show pm_E _ _ _ 21 [(3, .int 0), (2, .ref 18), (1, .ref 0), (0, .retAddr 0)] [.int 4, .int 0] _ _ _ _
  refine pm_e_sim pm_a0_21 rfl ?_
  refine pm_e_top (y := 6) (by decide +kernel) ?_
  show pm_E _ _ _ 23 [(3, .int 0), (2, .ref 18), (1, .ref 0), (0, .retAddr 0)] [.int 6, .int 4, .int 0] _ _ _ _
  refine pm_e_sim pm_a0_23 rfl ?_
  refine pm_e_top (y := (-2)) (by decide +kernel) ?_
  show pm_E _ _ _ 24 [(3, .int 0), (2, .ref 18), (1, .ref 0), (0, .retAddr 0)] [.int (-2), .int 0] _ _ _ _
  refine pm_e_ict pm_a0_24 rfl (by decide +kernel) ?_
  show pm_E _ _ _ 785 [(3, .int 0), (2, .ref 18), (1, .ref 0), (0, .retAddr 0)] [] _ _ _ _
  refine pm_e_sim pm_a0_785 rfl ?_
  refine pm_e_top (y := 1) (by decide +kernel) ?_
  show pm_E _ _ _ 786 [(3, .int 0), (2, .ref 18), (1, .ref 0), (0, .retAddr 0)] [.int 1] _ _ _ _
  refine pm_e_ret pm_a0_786 rfl rfl rfl rfl rfl rfl rfl rfl ?_
  exact hQ _ _ _ (by decide +kernel) (by decide +kernel)
set_option maxHeartbeats 40000000 in
set_option maxRecDepth 200000 in
theorem pm_short5 (xs : Nat → Int32) {Q : Option Value → List va_E → Nat → Nat → Prop} (hQ : ∀ ph c n, c ≤ 600000 → n ≤ 7302250 → Q (some (.int 1)) ph c n) : pm_E (some (5, xs)) 11 pm_mm0 18 pm_L0 [] pm_H0 50 194358 Q := by
  refine pm_e_sim pm_a0_18 rfl ?_
  show pm_E _ _ _ 19 [(3, .int 0), (2, .ref 18), (1, .ref 0), (0, .retAddr 0)] [.int 0] _ _ _ _
  refine pm_e_sim pm_a0_19 rfl ?_
  show pm_E _ _ _ 20 [(3, .int 0), (2, .ref 18), (1, .ref 0), (0, .retAddr 0)] [.retAddr 0, .int 0] _ _ _ _
  refine pm_e_rd pm_a0_20 rfl rfl rfl ?_
  dsimp only
  refine pm_e_top (y := 5) (by decide +kernel) ?_
  show pm_E _ _ _ 21 [(3, .int 0), (2, .ref 18), (1, .ref 0), (0, .retAddr 0)] [.int 5, .int 0] _ _ _ _
  refine pm_e_sim pm_a0_21 rfl ?_
  refine pm_e_top (y := 6) (by decide +kernel) ?_
  show pm_E _ _ _ 23 [(3, .int 0), (2, .ref 18), (1, .ref 0), (0, .retAddr 0)] [.int 6, .int 5, .int 0] _ _ _ _
  refine pm_e_sim pm_a0_23 rfl ?_
  refine pm_e_top (y := (-1)) (by decide +kernel) ?_
  show pm_E _ _ _ 24 [(3, .int 0), (2, .ref 18), (1, .ref 0), (0, .retAddr 0)] [.int (-1), .int 0] _ _ _ _
  refine pm_e_ict pm_a0_24 rfl (by decide +kernel) ?_
  show pm_E _ _ _ 785 [(3, .int 0), (2, .ref 18), (1, .ref 0), (0, .retAddr 0)] [] _ _ _ _
  refine pm_e_sim pm_a0_785 rfl ?_
  refine pm_e_top (y := 1) (by decide +kernel) ?_
  show pm_E _ _ _ 786 [(3, .int 0), (2, .ref 18), (1, .ref 0), (0, .retAddr 0)] [.int 1] _ _ _ _
  refine pm_e_ret pm_a0_786 rfl rfl rfl rfl rfl rfl rfl rfl ?_
  exact hQ _ _ _ (by decide +kernel) (by decide +kernel)
set_option maxHeartbeats 40000000 in
set_option maxRecDepth 200000 in
theorem pm_switch (xs : Nat → Int32) {Q : Option Value → List va_E → Nat → Nat → Prop} (k : pm_E (some (6, xs)) 11 pm_mm0 33 pm_L0 [.int (xs 0 &&& 31)] pm_H0 50 194358 Q) : pm_E (some (6, xs)) 11 pm_mm0 18 pm_L0 [] pm_H0 50 194358 Q := by
  refine pm_e_sim pm_a0_18 rfl ?_
  show pm_E _ _ _ 19 [(3, .int 0), (2, .ref 18), (1, .ref 0), (0, .retAddr 0)] [.int 0] _ _ _ _
  refine pm_e_sim pm_a0_19 rfl ?_
  show pm_E _ _ _ 20 [(3, .int 0), (2, .ref 18), (1, .ref 0), (0, .retAddr 0)] [.retAddr 0, .int 0] _ _ _ _
  refine pm_e_rd pm_a0_20 rfl rfl rfl ?_
  dsimp only
  refine pm_e_top (y := 6) (by decide +kernel) ?_
  show pm_E _ _ _ 21 [(3, .int 0), (2, .ref 18), (1, .ref 0), (0, .retAddr 0)] [.int 6, .int 0] _ _ _ _
  refine pm_e_sim pm_a0_21 rfl ?_
  refine pm_e_top (y := 6) (by decide +kernel) ?_
  show pm_E _ _ _ 23 [(3, .int 0), (2, .ref 18), (1, .ref 0), (0, .retAddr 0)] [.int 6, .int 6, .int 0] _ _ _ _
  refine pm_e_sim pm_a0_23 rfl ?_
  refine pm_e_top (y := 0) (by decide +kernel) ?_
  show pm_E _ _ _ 24 [(3, .int 0), (2, .ref 18), (1, .ref 0), (0, .retAddr 0)] [.int 0, .int 0] _ _ _ _
  refine pm_e_icf pm_a0_24 rfl (by decide +kernel) ?_
  show pm_E _ _ _ 27 [(3, .int 0), (2, .ref 18), (1, .ref 0), (0, .retAddr 0)] [] _ _ _ _
  refine pm_e_sim pm_a0_27 rfl ?_
  show pm_E _ _ _ 28 [(3, .int 0), (2, .ref 18), (1, .ref 0), (0, .retAddr 0)] [.retAddr 0] _ _ _ _
  refine pm_e_sim pm_a0_28 rfl ?_
  show pm_E _ _ _ 29 [(3, .int 0), (2, .ref 18), (1, .ref 0), (0, .retAddr 0)] [.int 0, .retAddr 0] _ _ _ _
  refine pm_e_sld (j := 0) pm_a0_29 (by decide +kernel) ?_
  show pm_E _ _ _ 30 [(3, .int 0), (2, .ref 18), (1, .ref 0), (0, .retAddr 0)] [.int _] _ _ _ _
  refine pm_e_sim pm_a0_30 rfl ?_
  refine pm_e_top (y := 31) (by decide +kernel) ?_
  show pm_E _ _ _ 32 [(3, .int 0), (2, .ref 18), (1, .ref 0), (0, .retAddr 0)] [.int 31, .int _] _ _ _ _
  refine pm_e_sim pm_a0_32 rfl ?_
  show pm_E _ _ _ 33 [(3, .int 0), (2, .ref 18), (1, .ref 0), (0, .retAddr 0)] [.int _] _ _ _ _
  exact k
end
