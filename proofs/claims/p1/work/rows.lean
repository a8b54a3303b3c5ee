section
-- ===== PART A: goes FIRST, ahead of the names: the tables' words, and 'selects' of the private methods out of them =====
/-- a private method of a class that the tables say can be made, by its rows of tables_1 -/
def lw_okq (q : MethodName × Nat) : Prop := (q.1.cls ≠ "java/lang/invoke/MethodHandle" ∧ q.1.cls ≠ "java/lang/invoke/VarHandle") ∧ Cond.instantiable q.1.cls q.2 ∈ tables_1 ∧ Cond.privateMethod q.1 ∈ tables_1 ∧ Cond.instanceMethod q.1 ∈ tables_1
theorem lw_p0 : lw_okq (⟨"LambdaShelf", "freshTerm", "()LLambdaShelf$Code;"⟩, 13) := ⟨⟨by decide +kernel, by decide +kernel⟩, List.mem_of_getElem? (i := 19) (by decide +kernel), List.mem_of_getElem? (i := 230) (by decide +kernel), List.mem_of_getElem? (i := 231) (by decide +kernel)⟩
theorem lw_p1 : lw_okq (⟨"LambdaShelf$Reader", "startRow", "()V"⟩, 13) := ⟨⟨by decide +kernel, by decide +kernel⟩, List.mem_of_getElem? (i := 87) (by decide +kernel), List.mem_of_getElem? (i := 242) (by decide +kernel), List.mem_of_getElem? (i := 243) (by decide +kernel)⟩
theorem lw_p2 : lw_okq (⟨"LambdaShelf$Reader", "putItem", "(I)V"⟩, 13) := ⟨⟨by decide +kernel, by decide +kernel⟩, List.mem_of_getElem? (i := 87) (by decide +kernel), List.mem_of_getElem? (i := 246) (by decide +kernel), List.mem_of_getElem? (i := 247) (by decide +kernel)⟩
theorem lw_p3 : lw_okq (⟨"LambdaShelf$Reader", "takeTokens", "()V"⟩, 13) := ⟨⟨by decide +kernel, by decide +kernel⟩, List.mem_of_getElem? (i := 87) (by decide +kernel), List.mem_of_getElem? (i := 250) (by decide +kernel), List.mem_of_getElem? (i := 251) (by decide +kernel)⟩
theorem lw_p4 : lw_okq (⟨"LambdaShelf$Reader", "findToken", "()V"⟩, 13) := ⟨⟨by decide +kernel, by decide +kernel⟩, List.mem_of_getElem? (i := 87) (by decide +kernel), List.mem_of_getElem? (i := 254) (by decide +kernel), List.mem_of_getElem? (i := 255) (by decide +kernel)⟩
theorem lw_p5 : lw_okq (⟨"LambdaShelf$Reader", "findName", "()V"⟩, 13) := ⟨⟨by decide +kernel, by decide +kernel⟩, List.mem_of_getElem? (i := 87) (by decide +kernel), List.mem_of_getElem? (i := 265) (by decide +kernel), List.mem_of_getElem? (i := 266) (by decide +kernel)⟩
theorem lw_p6 : lw_okq (⟨"LambdaShelf$Reader", "fail", "(I)V"⟩, 13) := ⟨⟨by decide +kernel, by decide +kernel⟩, List.mem_of_getElem? (i := 87) (by decide +kernel), List.mem_of_getElem? (i := 269) (by decide +kernel), List.mem_of_getElem? (i := 270) (by decide +kernel)⟩
theorem lw_p7 : lw_okq (⟨"LambdaShelf$Reader", "findNumber", "()V"⟩, 13) := ⟨⟨by decide +kernel, by decide +kernel⟩, List.mem_of_getElem? (i := 87) (by decide +kernel), List.mem_of_getElem? (i := 276) (by decide +kernel), List.mem_of_getElem? (i := 277) (by decide +kernel)⟩
theorem lw_p8 : lw_okq (⟨"LambdaShelf$Reader", "numberRead", "()I"⟩, 13) := ⟨⟨by decide +kernel, by decide +kernel⟩, List.mem_of_getElem? (i := 87) (by decide +kernel), List.mem_of_getElem? (i := 280) (by decide +kernel), List.mem_of_getElem? (i := 281) (by decide +kernel)⟩
theorem lw_p9 : lw_okq (⟨"LambdaShelf$Reader", "takeToken", "()V"⟩, 13) := ⟨⟨by decide +kernel, by decide +kernel⟩, List.mem_of_getElem? (i := 87) (by decide +kernel), List.mem_of_getElem? (i := 369) (by decide +kernel), List.mem_of_getElem? (i := 370) (by decide +kernel)⟩
theorem lw_p10 : lw_okq (⟨"LambdaShelf$Reader", "takeInHead", "()V"⟩, 13) := ⟨⟨by decide +kernel, by decide +kernel⟩, List.mem_of_getElem? (i := 87) (by decide +kernel), List.mem_of_getElem? (i := 373) (by decide +kernel), List.mem_of_getElem? (i := 374) (by decide +kernel)⟩
theorem lw_p11 : lw_okq (⟨"LambdaShelf$Reader", "openUp", "(I)V"⟩, 13) := ⟨⟨by decide +kernel, by decide +kernel⟩, List.mem_of_getElem? (i := 87) (by decide +kernel), List.mem_of_getElem? (i := 377) (by decide +kernel), List.mem_of_getElem? (i := 378) (by decide +kernel)⟩
theorem lw_p12 : lw_okq (⟨"LambdaShelf$Reader", "takeVariable", "()V"⟩, 13) := ⟨⟨by decide +kernel, by decide +kernel⟩, List.mem_of_getElem? (i := 87) (by decide +kernel), List.mem_of_getElem? (i := 381) (by decide +kernel), List.mem_of_getElem? (i := 382) (by decide +kernel)⟩
theorem lw_p13 : lw_okq (⟨"LambdaShelf$Reader", "isNameAt", "(I)Z"⟩, 13) := ⟨⟨by decide +kernel, by decide +kernel⟩, List.mem_of_getElem? (i := 87) (by decide +kernel), List.mem_of_getElem? (i := 385) (by decide +kernel), List.mem_of_getElem? (i := 386) (by decide +kernel)⟩
theorem lw_p14 : lw_okq (⟨"LambdaShelf$Reader", "takePart", "(I)V"⟩, 13) := ⟨⟨by decide +kernel, by decide +kernel⟩, List.mem_of_getElem? (i := 87) (by decide +kernel), List.mem_of_getElem? (i := 389) (by decide +kernel), List.mem_of_getElem? (i := 390) (by decide +kernel)⟩
theorem lw_p15 : lw_okq (⟨"LambdaShelf$Reader", "countPart", "()V"⟩, 13) := ⟨⟨by decide +kernel, by decide +kernel⟩, List.mem_of_getElem? (i := 87) (by decide +kernel), List.mem_of_getElem? (i := 393) (by decide +kernel), List.mem_of_getElem? (i := 394) (by decide +kernel)⟩
def lw_privs_1 : List (MethodName × Nat) := [(⟨"LambdaShelf", "freshTerm", "()LLambdaShelf$Code;"⟩, 13), (⟨"LambdaShelf$Reader", "startRow", "()V"⟩, 13), (⟨"LambdaShelf$Reader", "putItem", "(I)V"⟩, 13), (⟨"LambdaShelf$Reader", "takeTokens", "()V"⟩, 13), (⟨"LambdaShelf$Reader", "findToken", "()V"⟩, 13), (⟨"LambdaShelf$Reader", "findName", "()V"⟩, 13), (⟨"LambdaShelf$Reader", "fail", "(I)V"⟩, 13), (⟨"LambdaShelf$Reader", "findNumber", "()V"⟩, 13), (⟨"LambdaShelf$Reader", "numberRead", "()I"⟩, 13), (⟨"LambdaShelf$Reader", "takeToken", "()V"⟩, 13), (⟨"LambdaShelf$Reader", "takeInHead", "()V"⟩, 13), (⟨"LambdaShelf$Reader", "openUp", "(I)V"⟩, 13), (⟨"LambdaShelf$Reader", "takeVariable", "()V"⟩, 13), (⟨"LambdaShelf$Reader", "isNameAt", "(I)Z"⟩, 13), (⟨"LambdaShelf$Reader", "takePart", "(I)V"⟩, 13), (⟨"LambdaShelf$Reader", "countPart", "()V"⟩, 13)]
theorem lw_r1 : ∀ q ∈ lw_privs_1, lw_okq q := List.forall_mem_cons.mpr ⟨lw_p0, List.forall_mem_cons.mpr ⟨lw_p1, List.forall_mem_cons.mpr ⟨lw_p2, List.forall_mem_cons.mpr ⟨lw_p3, List.forall_mem_cons.mpr ⟨lw_p4, List.forall_mem_cons.mpr ⟨lw_p5, List.forall_mem_cons.mpr ⟨lw_p6, List.forall_mem_cons.mpr ⟨lw_p7, List.forall_mem_cons.mpr ⟨lw_p8, List.forall_mem_cons.mpr ⟨lw_p9, List.forall_mem_cons.mpr ⟨lw_p10, List.forall_mem_cons.mpr ⟨lw_p11, List.forall_mem_cons.mpr ⟨lw_p12, List.forall_mem_cons.mpr ⟨lw_p13, List.forall_mem_cons.mpr ⟨lw_p14, List.forall_mem_cons.mpr ⟨lw_p15, fun _ h => absurd h List.not_mem_nil⟩⟩⟩⟩⟩⟩⟩⟩⟩⟩⟩⟩⟩⟩⟩⟩
theorem lw_p16 : lw_okq (⟨"LambdaShelf$Reader", "takeSign", "(I)V"⟩, 13) := ⟨⟨by decide +kernel, by decide +kernel⟩, List.mem_of_getElem? (i := 87) (by decide +kernel), List.mem_of_getElem? (i := 397) (by decide +kernel), List.mem_of_getElem? (i := 398) (by decide +kernel)⟩
theorem lw_p17 : lw_okq (⟨"LambdaShelf$Reader", "closeParenthesis", "()V"⟩, 13) := ⟨⟨by decide +kernel, by decide +kernel⟩, List.mem_of_getElem? (i := 87) (by decide +kernel), List.mem_of_getElem? (i := 401) (by decide +kernel), List.mem_of_getElem? (i := 402) (by decide +kernel)⟩
theorem lw_p18 : lw_okq (⟨"LambdaShelf$Reader", "innermostParenthesis", "()I"⟩, 13) := ⟨⟨by decide +kernel, by decide +kernel⟩, List.mem_of_getElem? (i := 87) (by decide +kernel), List.mem_of_getElem? (i := 405) (by decide +kernel), List.mem_of_getElem? (i := 406) (by decide +kernel)⟩
theorem lw_p19 : lw_okq (⟨"LambdaShelf$Reader", "isRowEmpty", "()Z"⟩, 13) := ⟨⟨by decide +kernel, by decide +kernel⟩, List.mem_of_getElem? (i := 87) (by decide +kernel), List.mem_of_getElem? (i := 409) (by decide +kernel), List.mem_of_getElem? (i := 410) (by decide +kernel)⟩
theorem lw_p20 : lw_okq (⟨"LambdaShelf$Reader", "takeEnd", "()V"⟩, 13) := ⟨⟨by decide +kernel, by decide +kernel⟩, List.mem_of_getElem? (i := 87) (by decide +kernel), List.mem_of_getElem? (i := 413) (by decide +kernel), List.mem_of_getElem? (i := 414) (by decide +kernel)⟩
theorem lw_p21 : lw_okq (⟨"LambdaShelf$Reader", "putItems", "(LLambdaShelf$Code;)V"⟩, 13) := ⟨⟨by decide +kernel, by decide +kernel⟩, List.mem_of_getElem? (i := 87) (by decide +kernel), List.mem_of_getElem? (i := 417) (by decide +kernel), List.mem_of_getElem? (i := 418) (by decide +kernel)⟩
theorem lw_p22 : lw_okq (⟨"LambdaShelf", "keepFresh", "()I"⟩, 13) := ⟨⟨by decide +kernel, by decide +kernel⟩, List.mem_of_getElem? (i := 19) (by decide +kernel), List.mem_of_getElem? (i := 431) (by decide +kernel), List.mem_of_getElem? (i := 432) (by decide +kernel)⟩
theorem lw_p23 : lw_okq (⟨"LambdaShelf", "termAt", "(I)LLambdaShelf$Code;"⟩, 13) := ⟨⟨by decide +kernel, by decide +kernel⟩, List.mem_of_getElem? (i := 19) (by decide +kernel), List.mem_of_getElem? (i := 444) (by decide +kernel), List.mem_of_getElem? (i := 445) (by decide +kernel)⟩
theorem lw_p24 : lw_okq (⟨"LambdaShelf$Teller", "tellNode", "(I)V"⟩, 6) := ⟨⟨by decide +kernel, by decide +kernel⟩, List.mem_of_getElem? (i := 134) (by decide +kernel), List.mem_of_getElem? (i := 465) (by decide +kernel), List.mem_of_getElem? (i := 466) (by decide +kernel)⟩
theorem lw_p25 : lw_okq (⟨"LambdaShelf$Teller", "isWrapped", "(I)Z"⟩, 6) := ⟨⟨by decide +kernel, by decide +kernel⟩, List.mem_of_getElem? (i := 134) (by decide +kernel), List.mem_of_getElem? (i := 469) (by decide +kernel), List.mem_of_getElem? (i := 470) (by decide +kernel)⟩
theorem lw_p26 : lw_okq (⟨"LambdaShelf$Teller", "tell", "(I)V"⟩, 6) := ⟨⟨by decide +kernel, by decide +kernel⟩, List.mem_of_getElem? (i := 134) (by decide +kernel), List.mem_of_getElem? (i := 473) (by decide +kernel), List.mem_of_getElem? (i := 474) (by decide +kernel)⟩
theorem lw_p27 : lw_okq (⟨"LambdaShelf$Teller", "goInto", "(I)V"⟩, 6) := ⟨⟨by decide +kernel, by decide +kernel⟩, List.mem_of_getElem? (i := 134) (by decide +kernel), List.mem_of_getElem? (i := 477) (by decide +kernel), List.mem_of_getElem? (i := 478) (by decide +kernel)⟩
theorem lw_p28 : lw_okq (⟨"LambdaShelf$Teller", "tellName", "(I)V"⟩, 6) := ⟨⟨by decide +kernel, by decide +kernel⟩, List.mem_of_getElem? (i := 134) (by decide +kernel), List.mem_of_getElem? (i := 481) (by decide +kernel), List.mem_of_getElem? (i := 482) (by decide +kernel)⟩
theorem lw_p29 : lw_okq (⟨"LambdaShelf$Teller", "tellLeaf", "(I)V"⟩, 6) := ⟨⟨by decide +kernel, by decide +kernel⟩, List.mem_of_getElem? (i := 134) (by decide +kernel), List.mem_of_getElem? (i := 485) (by decide +kernel), List.mem_of_getElem? (i := 486) (by decide +kernel)⟩
theorem lw_p30 : lw_okq (⟨"LambdaShelf$Teller", "leaveEnded", "()V"⟩, 6) := ⟨⟨by decide +kernel, by decide +kernel⟩, List.mem_of_getElem? (i := 134) (by decide +kernel), List.mem_of_getElem? (i := 510) (by decide +kernel), List.mem_of_getElem? (i := 511) (by decide +kernel)⟩
theorem lw_p31 : lw_okq (⟨"LambdaShelf$Turner", "firstPlace", "(LLambdaShelf$Code;)I"⟩, 2) := ⟨⟨by decide +kernel, by decide +kernel⟩, List.mem_of_getElem? (i := 159) (by decide +kernel), List.mem_of_getElem? (i := 559) (by decide +kernel), List.mem_of_getElem? (i := 560) (by decide +kernel)⟩
def lw_privs_2 : List (MethodName × Nat) := [(⟨"LambdaShelf$Reader", "takeSign", "(I)V"⟩, 13), (⟨"LambdaShelf$Reader", "closeParenthesis", "()V"⟩, 13), (⟨"LambdaShelf$Reader", "innermostParenthesis", "()I"⟩, 13), (⟨"LambdaShelf$Reader", "isRowEmpty", "()Z"⟩, 13), (⟨"LambdaShelf$Reader", "takeEnd", "()V"⟩, 13), (⟨"LambdaShelf$Reader", "putItems", "(LLambdaShelf$Code;)V"⟩, 13), (⟨"LambdaShelf", "keepFresh", "()I"⟩, 13), (⟨"LambdaShelf", "termAt", "(I)LLambdaShelf$Code;"⟩, 13), (⟨"LambdaShelf$Teller", "tellNode", "(I)V"⟩, 6), (⟨"LambdaShelf$Teller", "isWrapped", "(I)Z"⟩, 6), (⟨"LambdaShelf$Teller", "tell", "(I)V"⟩, 6), (⟨"LambdaShelf$Teller", "goInto", "(I)V"⟩, 6), (⟨"LambdaShelf$Teller", "tellName", "(I)V"⟩, 6), (⟨"LambdaShelf$Teller", "tellLeaf", "(I)V"⟩, 6), (⟨"LambdaShelf$Teller", "leaveEnded", "()V"⟩, 6), (⟨"LambdaShelf$Turner", "firstPlace", "(LLambdaShelf$Code;)I"⟩, 2)]
theorem lw_r2 : ∀ q ∈ lw_privs_2, lw_okq q := List.forall_mem_cons.mpr ⟨lw_p16, List.forall_mem_cons.mpr ⟨lw_p17, List.forall_mem_cons.mpr ⟨lw_p18, List.forall_mem_cons.mpr ⟨lw_p19, List.forall_mem_cons.mpr ⟨lw_p20, List.forall_mem_cons.mpr ⟨lw_p21, List.forall_mem_cons.mpr ⟨lw_p22, List.forall_mem_cons.mpr ⟨lw_p23, List.forall_mem_cons.mpr ⟨lw_p24, List.forall_mem_cons.mpr ⟨lw_p25, List.forall_mem_cons.mpr ⟨lw_p26, List.forall_mem_cons.mpr ⟨lw_p27, List.forall_mem_cons.mpr ⟨lw_p28, List.forall_mem_cons.mpr ⟨lw_p29, List.forall_mem_cons.mpr ⟨lw_p30, List.forall_mem_cons.mpr ⟨lw_p31, fun _ h => absurd h List.not_mem_nil⟩⟩⟩⟩⟩⟩⟩⟩⟩⟩⟩⟩⟩⟩⟩⟩
theorem lw_p32 : lw_okq (⟨"LambdaShelf$Turner", "innerPlace", "(LLambdaShelf$Code;)I"⟩, 2) := ⟨⟨by decide +kernel, by decide +kernel⟩, List.mem_of_getElem? (i := 159) (by decide +kernel), List.mem_of_getElem? (i := 567) (by decide +kernel), List.mem_of_getElem? (i := 568) (by decide +kernel)⟩
theorem lw_p33 : lw_okq (⟨"LambdaShelf$Shape", "endBy", "(II)I"⟩, 2) := ⟨⟨by decide +kernel, by decide +kernel⟩, List.mem_of_getElem? (i := 74) (by decide +kernel), List.mem_of_getElem? (i := 578) (by decide +kernel), List.mem_of_getElem? (i := 579) (by decide +kernel)⟩
theorem lw_p34 : lw_okq (⟨"LambdaShelf$Shape", "putDepth", "(II)V"⟩, 2) := ⟨⟨by decide +kernel, by decide +kernel⟩, List.mem_of_getElem? (i := 74) (by decide +kernel), List.mem_of_getElem? (i := 586) (by decide +kernel), List.mem_of_getElem? (i := 587) (by decide +kernel)⟩
theorem lw_p35 : lw_okq (⟨"LambdaShelf$Shape", "spreadDepth", "(II)V"⟩, 2) := ⟨⟨by decide +kernel, by decide +kernel⟩, List.mem_of_getElem? (i := 74) (by decide +kernel), List.mem_of_getElem? (i := 590) (by decide +kernel), List.mem_of_getElem? (i := 591) (by decide +kernel)⟩
theorem lw_p36 : lw_okq (⟨"LambdaShelf$Turner", "headPlace", "(LLambdaShelf$Code;)I"⟩, 2) := ⟨⟨by decide +kernel, by decide +kernel⟩, List.mem_of_getElem? (i := 159) (by decide +kernel), List.mem_of_getElem? (i := 599) (by decide +kernel), List.mem_of_getElem? (i := 600) (by decide +kernel)⟩
theorem lw_p37 : lw_okq (⟨"LambdaShelf$Turner", "shorterPlace", "(LLambdaShelf$Code;)I"⟩, 2) := ⟨⟨by decide +kernel, by decide +kernel⟩, List.mem_of_getElem? (i := 159) (by decide +kernel), List.mem_of_getElem? (i := 603) (by decide +kernel), List.mem_of_getElem? (i := 604) (by decide +kernel)⟩
theorem lw_p38 : lw_okq (⟨"LambdaShelf$Turner", "isShortened", "(LLambdaShelf$Code;I)Z"⟩, 2) := ⟨⟨by decide +kernel, by decide +kernel⟩, List.mem_of_getElem? (i := 159) (by decide +kernel), List.mem_of_getElem? (i := 607) (by decide +kernel), List.mem_of_getElem? (i := 608) (by decide +kernel)⟩
theorem lw_p39 : lw_okq (⟨"LambdaShelf$Turner", "isBoundIn", "(LLambdaShelf$Code;III)Z"⟩, 2) := ⟨⟨by decide +kernel, by decide +kernel⟩, List.mem_of_getElem? (i := 159) (by decide +kernel), List.mem_of_getElem? (i := 612) (by decide +kernel), List.mem_of_getElem? (i := 613) (by decide +kernel)⟩
theorem lw_p40 : lw_okq (⟨"LambdaShelf$Turner", "putBody", "(LLambdaShelf$Code;III)V"⟩, 2) := ⟨⟨by decide +kernel, by decide +kernel⟩, List.mem_of_getElem? (i := 159) (by decide +kernel), List.mem_of_getElem? (i := 625) (by decide +kernel), List.mem_of_getElem? (i := 626) (by decide +kernel)⟩
theorem lw_p41 : lw_okq (⟨"LambdaShelf$Turner", "putRaised", "(LLambdaShelf$Code;III)V"⟩, 2) := ⟨⟨by decide +kernel, by decide +kernel⟩, List.mem_of_getElem? (i := 159) (by decide +kernel), List.mem_of_getElem? (i := 629) (by decide +kernel), List.mem_of_getElem? (i := 630) (by decide +kernel)⟩
theorem lw_p42 : lw_okq (⟨"LambdaShelf$Turner", "putTurned", "(LLambdaShelf$Code;II)V"⟩, 2) := ⟨⟨by decide +kernel, by decide +kernel⟩, List.mem_of_getElem? (i := 159) (by decide +kernel), List.mem_of_getElem? (i := 634) (by decide +kernel), List.mem_of_getElem? (i := 635) (by decide +kernel)⟩
theorem lw_p43 : lw_okq (⟨"LambdaShelf$Turner", "putShared", "(LLambdaShelf$Code;II)V"⟩, 2) := ⟨⟨by decide +kernel, by decide +kernel⟩, List.mem_of_getElem? (i := 159) (by decide +kernel), List.mem_of_getElem? (i := 639) (by decide +kernel), List.mem_of_getElem? (i := 640) (by decide +kernel)⟩
theorem lw_p44 : lw_okq (⟨"LambdaShelf$Abstracter", "takeLambdaOut", "()Z"⟩, 6) := ⟨⟨by decide +kernel, by decide +kernel⟩, List.mem_of_getElem? (i := 676) (by decide +kernel), List.mem_of_getElem? (i := 708) (by decide +kernel), List.mem_of_getElem? (i := 709) (by decide +kernel)⟩
theorem lw_p45 : lw_okq (⟨"LambdaShelf$Abstracter", "unholdBody", "()V"⟩, 6) := ⟨⟨by decide +kernel, by decide +kernel⟩, List.mem_of_getElem? (i := 676) (by decide +kernel), List.mem_of_getElem? (i := 712) (by decide +kernel), List.mem_of_getElem? (i := 713) (by decide +kernel)⟩
theorem lw_p46 : lw_okq (⟨"LambdaShelf$Abstracter", "heldAt", "(I)I"⟩, 6) := ⟨⟨by decide +kernel, by decide +kernel⟩, List.mem_of_getElem? (i := 676) (by decide +kernel), List.mem_of_getElem? (i := 717) (by decide +kernel), List.mem_of_getElem? (i := 718) (by decide +kernel)⟩
theorem lw_p47 : lw_okq (⟨"LambdaShelf$Abstracter", "countMet", "()V"⟩, 6) := ⟨⟨by decide +kernel, by decide +kernel⟩, List.mem_of_getElem? (i := 676) (by decide +kernel), List.mem_of_getElem? (i := 723) (by decide +kernel), List.mem_of_getElem? (i := 724) (by decide +kernel)⟩
def lw_privs_3 : List (MethodName × Nat) := [(⟨"LambdaShelf$Turner", "innerPlace", "(LLambdaShelf$Code;)I"⟩, 2), (⟨"LambdaShelf$Shape", "endBy", "(II)I"⟩, 2), (⟨"LambdaShelf$Shape", "putDepth", "(II)V"⟩, 2), (⟨"LambdaShelf$Shape", "spreadDepth", "(II)V"⟩, 2), (⟨"LambdaShelf$Turner", "headPlace", "(LLambdaShelf$Code;)I"⟩, 2), (⟨"LambdaShelf$Turner", "shorterPlace", "(LLambdaShelf$Code;)I"⟩, 2), (⟨"LambdaShelf$Turner", "isShortened", "(LLambdaShelf$Code;I)Z"⟩, 2), (⟨"LambdaShelf$Turner", "isBoundIn", "(LLambdaShelf$Code;III)Z"⟩, 2), (⟨"LambdaShelf$Turner", "putBody", "(LLambdaShelf$Code;III)V"⟩, 2), (⟨"LambdaShelf$Turner", "putRaised", "(LLambdaShelf$Code;III)V"⟩, 2), (⟨"LambdaShelf$Turner", "putTurned", "(LLambdaShelf$Code;II)V"⟩, 2), (⟨"LambdaShelf$Turner", "putShared", "(LLambdaShelf$Code;II)V"⟩, 2), (⟨"LambdaShelf$Abstracter", "takeLambdaOut", "()Z"⟩, 6), (⟨"LambdaShelf$Abstracter", "unholdBody", "()V"⟩, 6), (⟨"LambdaShelf$Abstracter", "heldAt", "(I)I"⟩, 6), (⟨"LambdaShelf$Abstracter", "countMet", "()V"⟩, 6)]
theorem lw_r3 : ∀ q ∈ lw_privs_3, lw_okq q := List.forall_mem_cons.mpr ⟨lw_p32, List.forall_mem_cons.mpr ⟨lw_p33, List.forall_mem_cons.mpr ⟨lw_p34, List.forall_mem_cons.mpr ⟨lw_p35, List.forall_mem_cons.mpr ⟨lw_p36, List.forall_mem_cons.mpr ⟨lw_p37, List.forall_mem_cons.mpr ⟨lw_p38, List.forall_mem_cons.mpr ⟨lw_p39, List.forall_mem_cons.mpr ⟨lw_p40, List.forall_mem_cons.mpr ⟨lw_p41, List.forall_mem_cons.mpr ⟨lw_p42, List.forall_mem_cons.mpr ⟨lw_p43, List.forall_mem_cons.mpr ⟨lw_p44, List.forall_mem_cons.mpr ⟨lw_p45, List.forall_mem_cons.mpr ⟨lw_p46, List.forall_mem_cons.mpr ⟨lw_p47, fun _ h => absurd h List.not_mem_nil⟩⟩⟩⟩⟩⟩⟩⟩⟩⟩⟩⟩⟩⟩⟩⟩
theorem lw_p48 : lw_okq (⟨"LambdaShelf$Abstracter", "putAbstracted", "()V"⟩, 6) := ⟨⟨by decide +kernel, by decide +kernel⟩, List.mem_of_getElem? (i := 676) (by decide +kernel), List.mem_of_getElem? (i := 727) (by decide +kernel), List.mem_of_getElem? (i := 728) (by decide +kernel)⟩
theorem lw_p49 : lw_okq (⟨"LambdaShelf$Abstracter", "isMet", "(II)Z"⟩, 6) := ⟨⟨by decide +kernel, by decide +kernel⟩, List.mem_of_getElem? (i := 676) (by decide +kernel), List.mem_of_getElem? (i := 733) (by decide +kernel), List.mem_of_getElem? (i := 734) (by decide +kernel)⟩
theorem lw_p50 : lw_okq (⟨"LambdaShelf$Abstracter", "putLowered", "(II)V"⟩, 6) := ⟨⟨by decide +kernel, by decide +kernel⟩, List.mem_of_getElem? (i := 676) (by decide +kernel), List.mem_of_getElem? (i := 737) (by decide +kernel), List.mem_of_getElem? (i := 738) (by decide +kernel)⟩
theorem lw_p51 : lw_okq (⟨"LambdaShelf$Abstracter", "hold", "(I)Z"⟩, 6) := ⟨⟨by decide +kernel, by decide +kernel⟩, List.mem_of_getElem? (i := 676) (by decide +kernel), List.mem_of_getElem? (i := 741) (by decide +kernel), List.mem_of_getElem? (i := 742) (by decide +kernel)⟩
theorem lw_p52 : lw_okq (⟨"LambdaShelf", "putTrial", "(LLambdaShelf$Code;)V"⟩, 13) := ⟨⟨by decide +kernel, by decide +kernel⟩, List.mem_of_getElem? (i := 19) (by decide +kernel), List.mem_of_getElem? (i := 759) (by decide +kernel), List.mem_of_getElem? (i := 760) (by decide +kernel)⟩
theorem lw_p53 : lw_okq (⟨"LambdaShelf$Typer", "any", "()I"⟩, 13) := ⟨⟨by decide +kernel, by decide +kernel⟩, List.mem_of_getElem? (i := 767) (by decide +kernel), List.mem_of_getElem? (i := 821) (by decide +kernel), List.mem_of_getElem? (i := 822) (by decide +kernel)⟩
theorem lw_p54 : lw_okq (⟨"LambdaShelf$Typer", "arrow", "(II)I"⟩, 13) := ⟨⟨by decide +kernel, by decide +kernel⟩, List.mem_of_getElem? (i := 767) (by decide +kernel), List.mem_of_getElem? (i := 825) (by decide +kernel), List.mem_of_getElem? (i := 826) (by decide +kernel)⟩
theorem lw_p55 : lw_okq (⟨"LambdaShelf$Typer", "await", "(I)V"⟩, 13) := ⟨⟨by decide +kernel, by decide +kernel⟩, List.mem_of_getElem? (i := 767) (by decide +kernel), List.mem_of_getElem? (i := 833) (by decide +kernel), List.mem_of_getElem? (i := 834) (by decide +kernel)⟩
theorem lw_p56 : lw_okq (⟨"LambdaShelf$Typer", "nextWaiting", "()I"⟩, 13) := ⟨⟨by decide +kernel, by decide +kernel⟩, List.mem_of_getElem? (i := 767) (by decide +kernel), List.mem_of_getElem? (i := 838) (by decide +kernel), List.mem_of_getElem? (i := 839) (by decide +kernel)⟩
theorem lw_p57 : lw_okq (⟨"LambdaShelf$Typer", "typeNode", "(III)V"⟩, 13) := ⟨⟨by decide +kernel, by decide +kernel⟩, List.mem_of_getElem? (i := 767) (by decide +kernel), List.mem_of_getElem? (i := 842) (by decide +kernel), List.mem_of_getElem? (i := 843) (by decide +kernel)⟩
theorem lw_p58 : lw_okq (⟨"LambdaShelf$Typer", "typeApply", "(I)V"⟩, 13) := ⟨⟨by decide +kernel, by decide +kernel⟩, List.mem_of_getElem? (i := 767) (by decide +kernel), List.mem_of_getElem? (i := 846) (by decide +kernel), List.mem_of_getElem? (i := 847) (by decide +kernel)⟩
theorem lw_p59 : lw_okq (⟨"LambdaShelf$Typer", "typeOfLambda", "(I)I"⟩, 13) := ⟨⟨by decide +kernel, by decide +kernel⟩, List.mem_of_getElem? (i := 767) (by decide +kernel), List.mem_of_getElem? (i := 851) (by decide +kernel), List.mem_of_getElem? (i := 852) (by decide +kernel)⟩
theorem lw_p60 : lw_okq (⟨"LambdaShelf$Typer", "joinAll", "(II)V"⟩, 13) := ⟨⟨by decide +kernel, by decide +kernel⟩, List.mem_of_getElem? (i := 767) (by decide +kernel), List.mem_of_getElem? (i := 855) (by decide +kernel), List.mem_of_getElem? (i := 856) (by decide +kernel)⟩
theorem lw_p61 : lw_okq (⟨"LambdaShelf$Typer", "join", "(III)I"⟩, 13) := ⟨⟨by decide +kernel, by decide +kernel⟩, List.mem_of_getElem? (i := 767) (by decide +kernel), List.mem_of_getElem? (i := 859) (by decide +kernel), List.mem_of_getElem? (i := 860) (by decide +kernel)⟩
theorem lw_p62 : lw_okq (⟨"LambdaShelf$Typer", "rootOf", "(I)I"⟩, 13) := ⟨⟨by decide +kernel, by decide +kernel⟩, List.mem_of_getElem? (i := 767) (by decide +kernel), List.mem_of_getElem? (i := 863) (by decide +kernel), List.mem_of_getElem? (i := 864) (by decide +kernel)⟩
theorem lw_p63 : lw_okq (⟨"LambdaShelf$Typer", "isArrow", "(I)Z"⟩, 13) := ⟨⟨by decide +kernel, by decide +kernel⟩, List.mem_of_getElem? (i := 767) (by decide +kernel), List.mem_of_getElem? (i := 870) (by decide +kernel), List.mem_of_getElem? (i := 871) (by decide +kernel)⟩
def lw_privs_4 : List (MethodName × Nat) := [(⟨"LambdaShelf$Abstracter", "putAbstracted", "()V"⟩, 6), (⟨"LambdaShelf$Abstracter", "isMet", "(II)Z"⟩, 6), (⟨"LambdaShelf$Abstracter", "putLowered", "(II)V"⟩, 6), (⟨"LambdaShelf$Abstracter", "hold", "(I)Z"⟩, 6), (⟨"LambdaShelf", "putTrial", "(LLambdaShelf$Code;)V"⟩, 13), (⟨"LambdaShelf$Typer", "any", "()I"⟩, 13), (⟨"LambdaShelf$Typer", "arrow", "(II)I"⟩, 13), (⟨"LambdaShelf$Typer", "await", "(I)V"⟩, 13), (⟨"LambdaShelf$Typer", "nextWaiting", "()I"⟩, 13), (⟨"LambdaShelf$Typer", "typeNode", "(III)V"⟩, 13), (⟨"LambdaShelf$Typer", "typeApply", "(I)V"⟩, 13), (⟨"LambdaShelf$Typer", "typeOfLambda", "(I)I"⟩, 13), (⟨"LambdaShelf$Typer", "joinAll", "(II)V"⟩, 13), (⟨"LambdaShelf$Typer", "join", "(III)I"⟩, 13), (⟨"LambdaShelf$Typer", "rootOf", "(I)I"⟩, 13), (⟨"LambdaShelf$Typer", "isArrow", "(I)Z"⟩, 13)]
theorem lw_r4 : ∀ q ∈ lw_privs_4, lw_okq q := List.forall_mem_cons.mpr ⟨lw_p48, List.forall_mem_cons.mpr ⟨lw_p49, List.forall_mem_cons.mpr ⟨lw_p50, List.forall_mem_cons.mpr ⟨lw_p51, List.forall_mem_cons.mpr ⟨lw_p52, List.forall_mem_cons.mpr ⟨lw_p53, List.forall_mem_cons.mpr ⟨lw_p54, List.forall_mem_cons.mpr ⟨lw_p55, List.forall_mem_cons.mpr ⟨lw_p56, List.forall_mem_cons.mpr ⟨lw_p57, List.forall_mem_cons.mpr ⟨lw_p58, List.forall_mem_cons.mpr ⟨lw_p59, List.forall_mem_cons.mpr ⟨lw_p60, List.forall_mem_cons.mpr ⟨lw_p61, List.forall_mem_cons.mpr ⟨lw_p62, List.forall_mem_cons.mpr ⟨lw_p63, fun _ h => absurd h List.not_mem_nil⟩⟩⟩⟩⟩⟩⟩⟩⟩⟩⟩⟩⟩⟩⟩⟩
theorem lw_p64 : lw_okq (⟨"LambdaShelf$Typer", "enqueue", "(II)I"⟩, 13) := ⟨⟨by decide +kernel, by decide +kernel⟩, List.mem_of_getElem? (i := 767) (by decide +kernel), List.mem_of_getElem? (i := 874) (by decide +kernel), List.mem_of_getElem? (i := 875) (by decide +kernel)⟩
theorem lw_p65 : lw_okq (⟨"LambdaShelf$Typer", "typeOfLetter", "(I)I"⟩, 13) := ⟨⟨by decide +kernel, by decide +kernel⟩, List.mem_of_getElem? (i := 767) (by decide +kernel), List.mem_of_getElem? (i := 879) (by decide +kernel), List.mem_of_getElem? (i := 880) (by decide +kernel)⟩
theorem lw_p66 : lw_okq (⟨"LambdaShelf$Typer", "typeOfS", "(III)I"⟩, 13) := ⟨⟨by decide +kernel, by decide +kernel⟩, List.mem_of_getElem? (i := 767) (by decide +kernel), List.mem_of_getElem? (i := 883) (by decide +kernel), List.mem_of_getElem? (i := 884) (by decide +kernel)⟩
theorem lw_p67 : lw_okq (⟨"LambdaShelf$Typer", "typeOfK", "(II)I"⟩, 13) := ⟨⟨by decide +kernel, by decide +kernel⟩, List.mem_of_getElem? (i := 767) (by decide +kernel), List.mem_of_getElem? (i := 887) (by decide +kernel), List.mem_of_getElem? (i := 888) (by decide +kernel)⟩
theorem lw_p68 : lw_okq (⟨"LambdaShelf$Typer", "typeOfI", "(I)I"⟩, 13) := ⟨⟨by decide +kernel, by decide +kernel⟩, List.mem_of_getElem? (i := 767) (by decide +kernel), List.mem_of_getElem? (i := 891) (by decide +kernel), List.mem_of_getElem? (i := 892) (by decide +kernel)⟩
theorem lw_p69 : lw_okq (⟨"LambdaShelf$Typer", "hasCircle", "()Z"⟩, 13) := ⟨⟨by decide +kernel, by decide +kernel⟩, List.mem_of_getElem? (i := 767) (by decide +kernel), List.mem_of_getElem? (i := 895) (by decide +kernel), List.mem_of_getElem? (i := 896) (by decide +kernel)⟩
theorem lw_p70 : lw_okq (⟨"LambdaShelf$Typer", "countSides", "()V"⟩, 13) := ⟨⟨by decide +kernel, by decide +kernel⟩, List.mem_of_getElem? (i := 767) (by decide +kernel), List.mem_of_getElem? (i := 899) (by decide +kernel), List.mem_of_getElem? (i := 900) (by decide +kernel)⟩
theorem lw_p71 : lw_okq (⟨"LambdaShelf$Typer", "clearMarks", "()V"⟩, 13) := ⟨⟨by decide +kernel, by decide +kernel⟩, List.mem_of_getElem? (i := 767) (by decide +kernel), List.mem_of_getElem? (i := 903) (by decide +kernel), List.mem_of_getElem? (i := 904) (by decide +kernel)⟩
theorem lw_p72 : lw_okq (⟨"LambdaShelf$Typer", "countSide", "(I)V"⟩, 13) := ⟨⟨by decide +kernel, by decide +kernel⟩, List.mem_of_getElem? (i := 767) (by decide +kernel), List.mem_of_getElem? (i := 907) (by decide +kernel), List.mem_of_getElem? (i := 908) (by decide +kernel)⟩
theorem lw_p73 : lw_okq (⟨"LambdaShelf$Typer", "release", "(II)I"⟩, 13) := ⟨⟨by decide +kernel, by decide +kernel⟩, List.mem_of_getElem? (i := 767) (by decide +kernel), List.mem_of_getElem? (i := 911) (by decide +kernel), List.mem_of_getElem? (i := 912) (by decide +kernel)⟩
theorem lw_p74 : lw_okq (⟨"LambdaShelf$Typer", "tellType", "(I)V"⟩, 13) := ⟨⟨by decide +kernel, by decide +kernel⟩, List.mem_of_getElem? (i := 767) (by decide +kernel), List.mem_of_getElem? (i := 915) (by decide +kernel), List.mem_of_getElem? (i := 916) (by decide +kernel)⟩
theorem lw_p75 : lw_okq (⟨"LambdaShelf", "allNodes", "()I"⟩, 13) := ⟨⟨by decide +kernel, by decide +kernel⟩, List.mem_of_getElem? (i := 19) (by decide +kernel), List.mem_of_getElem? (i := 947) (by decide +kernel), List.mem_of_getElem? (i := 948) (by decide +kernel)⟩
theorem lw_p76 : lw_okq (⟨"LambdaShelfModel", "put", "(I)V"⟩, 49) := ⟨⟨by decide +kernel, by decide +kernel⟩, List.mem_of_getElem? (i := 951) (by decide +kernel), List.mem_of_getElem? (i := 1111) (by decide +kernel), List.mem_of_getElem? (i := 1112) (by decide +kernel)⟩
theorem lw_p77 : lw_okq (⟨"LambdaShelfModel", "readTerm", "()V"⟩, 49) := ⟨⟨by decide +kernel, by decide +kernel⟩, List.mem_of_getElem? (i := 951) (by decide +kernel), List.mem_of_getElem? (i := 1126) (by decide +kernel), List.mem_of_getElem? (i := 1127) (by decide +kernel)⟩
theorem lw_p78 : lw_okq (⟨"LambdaShelfModel", "level", "(I)V"⟩, 49) := ⟨⟨by decide +kernel, by decide +kernel⟩, List.mem_of_getElem? (i := 951) (by decide +kernel), List.mem_of_getElem? (i := 1130) (by decide +kernel), List.mem_of_getElem? (i := 1131) (by decide +kernel)⟩
theorem lw_p79 : lw_okq (⟨"LambdaShelfModel", "next", "()V"⟩, 49) := ⟨⟨by decide +kernel, by decide +kernel⟩, List.mem_of_getElem? (i := 951) (by decide +kernel), List.mem_of_getElem? (i := 1134) (by decide +kernel), List.mem_of_getElem? (i := 1135) (by decide +kernel)⟩
def lw_privs_5 : List (MethodName × Nat) := [(⟨"LambdaShelf$Typer", "enqueue", "(II)I"⟩, 13), (⟨"LambdaShelf$Typer", "typeOfLetter", "(I)I"⟩, 13), (⟨"LambdaShelf$Typer", "typeOfS", "(III)I"⟩, 13), (⟨"LambdaShelf$Typer", "typeOfK", "(II)I"⟩, 13), (⟨"LambdaShelf$Typer", "typeOfI", "(I)I"⟩, 13), (⟨"LambdaShelf$Typer", "hasCircle", "()Z"⟩, 13), (⟨"LambdaShelf$Typer", "countSides", "()V"⟩, 13), (⟨"LambdaShelf$Typer", "clearMarks", "()V"⟩, 13), (⟨"LambdaShelf$Typer", "countSide", "(I)V"⟩, 13), (⟨"LambdaShelf$Typer", "release", "(II)I"⟩, 13), (⟨"LambdaShelf$Typer", "tellType", "(I)V"⟩, 13), (⟨"LambdaShelf", "allNodes", "()I"⟩, 13), (⟨"LambdaShelfModel", "put", "(I)V"⟩, 49), (⟨"LambdaShelfModel", "readTerm", "()V"⟩, 49), (⟨"LambdaShelfModel", "level", "(I)V"⟩, 49), (⟨"LambdaShelfModel", "next", "()V"⟩, 49)]
theorem lw_r5 : ∀ q ∈ lw_privs_5, lw_okq q := List.forall_mem_cons.mpr ⟨lw_p64, List.forall_mem_cons.mpr ⟨lw_p65, List.forall_mem_cons.mpr ⟨lw_p66, List.forall_mem_cons.mpr ⟨lw_p67, List.forall_mem_cons.mpr ⟨lw_p68, List.forall_mem_cons.mpr ⟨lw_p69, List.forall_mem_cons.mpr ⟨lw_p70, List.forall_mem_cons.mpr ⟨lw_p71, List.forall_mem_cons.mpr ⟨lw_p72, List.forall_mem_cons.mpr ⟨lw_p73, List.forall_mem_cons.mpr ⟨lw_p74, List.forall_mem_cons.mpr ⟨lw_p75, List.forall_mem_cons.mpr ⟨lw_p76, List.forall_mem_cons.mpr ⟨lw_p77, List.forall_mem_cons.mpr ⟨lw_p78, List.forall_mem_cons.mpr ⟨lw_p79, fun _ h => absurd h List.not_mem_nil⟩⟩⟩⟩⟩⟩⟩⟩⟩⟩⟩⟩⟩⟩⟩⟩
theorem lw_p80 : lw_okq (⟨"LambdaShelfModel", "look", "()I"⟩, 49) := ⟨⟨by decide +kernel, by decide +kernel⟩, List.mem_of_getElem? (i := 951) (by decide +kernel), List.mem_of_getElem? (i := 1138) (by decide +kernel), List.mem_of_getElem? (i := 1139) (by decide +kernel)⟩
theorem lw_p81 : lw_okq (⟨"LambdaShelfModel", "fails", "(II)V"⟩, 49) := ⟨⟨by decide +kernel, by decide +kernel⟩, List.mem_of_getElem? (i := 951) (by decide +kernel), List.mem_of_getElem? (i := 1146) (by decide +kernel), List.mem_of_getElem? (i := 1147) (by decide +kernel)⟩
theorem lw_p82 : lw_okq (⟨"LambdaShelfModel", "readName", "()V"⟩, 49) := ⟨⟨by decide +kernel, by decide +kernel⟩, List.mem_of_getElem? (i := 951) (by decide +kernel), List.mem_of_getElem? (i := 1157) (by decide +kernel), List.mem_of_getElem? (i := 1158) (by decide +kernel)⟩
theorem lw_p83 : lw_okq (⟨"LambdaShelfModel", "part", "()V"⟩, 49) := ⟨⟨by decide +kernel, by decide +kernel⟩, List.mem_of_getElem? (i := 951) (by decide +kernel), List.mem_of_getElem? (i := 1161) (by decide +kernel), List.mem_of_getElem? (i := 1162) (by decide +kernel)⟩
theorem lw_p84 : lw_okq (⟨"LambdaShelfModel", "lay", "(I)V"⟩, 49) := ⟨⟨by decide +kernel, by decide +kernel⟩, List.mem_of_getElem? (i := 951) (by decide +kernel), List.mem_of_getElem? (i := 1165) (by decide +kernel), List.mem_of_getElem? (i := 1166) (by decide +kernel)⟩
theorem lw_p85 : lw_okq (⟨"LambdaShelfModel", "readNumber", "()V"⟩, 49) := ⟨⟨by decide +kernel, by decide +kernel⟩, List.mem_of_getElem? (i := 951) (by decide +kernel), List.mem_of_getElem? (i := 1169) (by decide +kernel), List.mem_of_getElem? (i := 1170) (by decide +kernel)⟩
theorem lw_p86 : lw_okq (⟨"LambdaShelfModel", "isSign", "(I)Z"⟩, 49) := ⟨⟨by decide +kernel, by decide +kernel⟩, List.mem_of_getElem? (i := 951) (by decide +kernel), List.mem_of_getElem? (i := 1173) (by decide +kernel), List.mem_of_getElem? (i := 1174) (by decide +kernel)⟩
theorem lw_p87 : lw_okq (⟨"LambdaShelfModel", "readLambda", "()V"⟩, 49) := ⟨⟨by decide +kernel, by decide +kernel⟩, List.mem_of_getElem? (i := 951) (by decide +kernel), List.mem_of_getElem? (i := 1177) (by decide +kernel), List.mem_of_getElem? (i := 1178) (by decide +kernel)⟩
theorem lw_p88 : lw_okq (⟨"LambdaShelfModel", "closes", "()V"⟩, 49) := ⟨⟨by decide +kernel, by decide +kernel⟩, List.mem_of_getElem? (i := 951) (by decide +kernel), List.mem_of_getElem? (i := 1181) (by decide +kernel), List.mem_of_getElem? (i := 1182) (by decide +kernel)⟩
theorem lw_p89 : lw_okq (⟨"LambdaShelfModel", "keep", "(I)V"⟩, 49) := ⟨⟨by decide +kernel, by decide +kernel⟩, List.mem_of_getElem? (i := 951) (by decide +kernel), List.mem_of_getElem? (i := 1185) (by decide +kernel), List.mem_of_getElem? (i := 1186) (by decide +kernel)⟩
theorem lw_p90 : lw_okq (⟨"LambdaShelfModel", "isTerm", "(I)Z"⟩, 49) := ⟨⟨by decide +kernel, by decide +kernel⟩, List.mem_of_getElem? (i := 951) (by decide +kernel), List.mem_of_getElem? (i := 1197) (by decide +kernel), List.mem_of_getElem? (i := 1198) (by decide +kernel)⟩
theorem lw_p91 : lw_okq (⟨"LambdaShelfModel", "take", "(I)V"⟩, 49) := ⟨⟨by decide +kernel, by decide +kernel⟩, List.mem_of_getElem? (i := 951) (by decide +kernel), List.mem_of_getElem? (i := 1209) (by decide +kernel), List.mem_of_getElem? (i := 1210) (by decide +kernel)⟩
theorem lw_p92 : lw_okq (⟨"LambdaShelfModel", "sayTerm", "()V"⟩, 49) := ⟨⟨by decide +kernel, by decide +kernel⟩, List.mem_of_getElem? (i := 951) (by decide +kernel), List.mem_of_getElem? (i := 1213) (by decide +kernel), List.mem_of_getElem? (i := 1214) (by decide +kernel)⟩
theorem lw_p93 : lw_okq (⟨"LambdaShelfModel", "endOf", "(I)I"⟩, 49) := ⟨⟨by decide +kernel, by decide +kernel⟩, List.mem_of_getElem? (i := 951) (by decide +kernel), List.mem_of_getElem? (i := 1217) (by decide +kernel), List.mem_of_getElem? (i := 1218) (by decide +kernel)⟩
theorem lw_p94 : lw_okq (⟨"LambdaShelfModel", "depths", "(I)V"⟩, 49) := ⟨⟨by decide +kernel, by decide +kernel⟩, List.mem_of_getElem? (i := 951) (by decide +kernel), List.mem_of_getElem? (i := 1221) (by decide +kernel), List.mem_of_getElem? (i := 1222) (by decide +kernel)⟩
theorem lw_p95 : lw_okq (⟨"LambdaShelfModel", "say", "(I)V"⟩, 49) := ⟨⟨by decide +kernel, by decide +kernel⟩, List.mem_of_getElem? (i := 951) (by decide +kernel), List.mem_of_getElem? (i := 1225) (by decide +kernel), List.mem_of_getElem? (i := 1226) (by decide +kernel)⟩
def lw_privs_6 : List (MethodName × Nat) := [(⟨"LambdaShelfModel", "look", "()I"⟩, 49), (⟨"LambdaShelfModel", "fails", "(II)V"⟩, 49), (⟨"LambdaShelfModel", "readName", "()V"⟩, 49), (⟨"LambdaShelfModel", "part", "()V"⟩, 49), (⟨"LambdaShelfModel", "lay", "(I)V"⟩, 49), (⟨"LambdaShelfModel", "readNumber", "()V"⟩, 49), (⟨"LambdaShelfModel", "isSign", "(I)Z"⟩, 49), (⟨"LambdaShelfModel", "readLambda", "()V"⟩, 49), (⟨"LambdaShelfModel", "closes", "()V"⟩, 49), (⟨"LambdaShelfModel", "keep", "(I)V"⟩, 49), (⟨"LambdaShelfModel", "isTerm", "(I)Z"⟩, 49), (⟨"LambdaShelfModel", "take", "(I)V"⟩, 49), (⟨"LambdaShelfModel", "sayTerm", "()V"⟩, 49), (⟨"LambdaShelfModel", "endOf", "(I)I"⟩, 49), (⟨"LambdaShelfModel", "depths", "(I)V"⟩, 49), (⟨"LambdaShelfModel", "say", "(I)V"⟩, 49)]
theorem lw_r6 : ∀ q ∈ lw_privs_6, lw_okq q := List.forall_mem_cons.mpr ⟨lw_p80, List.forall_mem_cons.mpr ⟨lw_p81, List.forall_mem_cons.mpr ⟨lw_p82, List.forall_mem_cons.mpr ⟨lw_p83, List.forall_mem_cons.mpr ⟨lw_p84, List.forall_mem_cons.mpr ⟨lw_p85, List.forall_mem_cons.mpr ⟨lw_p86, List.forall_mem_cons.mpr ⟨lw_p87, List.forall_mem_cons.mpr ⟨lw_p88, List.forall_mem_cons.mpr ⟨lw_p89, List.forall_mem_cons.mpr ⟨lw_p90, List.forall_mem_cons.mpr ⟨lw_p91, List.forall_mem_cons.mpr ⟨lw_p92, List.forall_mem_cons.mpr ⟨lw_p93, List.forall_mem_cons.mpr ⟨lw_p94, List.forall_mem_cons.mpr ⟨lw_p95, fun _ h => absurd h List.not_mem_nil⟩⟩⟩⟩⟩⟩⟩⟩⟩⟩⟩⟩⟩⟩⟩⟩
theorem lw_p96 : lw_okq (⟨"LambdaShelfModel", "sayName", "(I)V"⟩, 49) := ⟨⟨by decide +kernel, by decide +kernel⟩, List.mem_of_getElem? (i := 951) (by decide +kernel), List.mem_of_getElem? (i := 1229) (by decide +kernel), List.mem_of_getElem? (i := 1230) (by decide +kernel)⟩
theorem lw_p97 : lw_okq (⟨"LambdaShelfModel", "stepped", "(I)I"⟩, 49) := ⟨⟨by decide +kernel, by decide +kernel⟩, List.mem_of_getElem? (i := 951) (by decide +kernel), List.mem_of_getElem? (i := 1250) (by decide +kernel), List.mem_of_getElem? (i := 1251) (by decide +kernel)⟩
theorem lw_p98 : lw_okq (⟨"LambdaShelfModel", "nextRedex", "(I)I"⟩, 49) := ⟨⟨by decide +kernel, by decide +kernel⟩, List.mem_of_getElem? (i := 951) (by decide +kernel), List.mem_of_getElem? (i := 1254) (by decide +kernel), List.mem_of_getElem? (i := 1255) (by decide +kernel)⟩
theorem lw_p99 : lw_okq (⟨"LambdaShelfModel", "isRedex", "(I)Z"⟩, 49) := ⟨⟨by decide +kernel, by decide +kernel⟩, List.mem_of_getElem? (i := 951) (by decide +kernel), List.mem_of_getElem? (i := 1258) (by decide +kernel), List.mem_of_getElem? (i := 1259) (by decide +kernel)⟩
theorem lw_p100 : lw_okq (⟨"LambdaShelfModel", "isThin", "(I)Z"⟩, 49) := ⟨⟨by decide +kernel, by decide +kernel⟩, List.mem_of_getElem? (i := 951) (by decide +kernel), List.mem_of_getElem? (i := 1262) (by decide +kernel), List.mem_of_getElem? (i := 1263) (by decide +kernel)⟩
theorem lw_p101 : lw_okq (⟨"LambdaShelfModel", "has", "(I)Z"⟩, 49) := ⟨⟨by decide +kernel, by decide +kernel⟩, List.mem_of_getElem? (i := 951) (by decide +kernel), List.mem_of_getElem? (i := 1266) (by decide +kernel), List.mem_of_getElem? (i := 1267) (by decide +kernel)⟩
theorem lw_p102 : lw_okq (⟨"LambdaShelfModel", "hasWithin", "(I)Z"⟩, 49) := ⟨⟨by decide +kernel, by decide +kernel⟩, List.mem_of_getElem? (i := 951) (by decide +kernel), List.mem_of_getElem? (i := 1270) (by decide +kernel), List.mem_of_getElem? (i := 1271) (by decide +kernel)⟩
theorem lw_p103 : lw_okq (⟨"LambdaShelfModel", "addAll", "(II)V"⟩, 49) := ⟨⟨by decide +kernel, by decide +kernel⟩, List.mem_of_getElem? (i := 951) (by decide +kernel), List.mem_of_getElem? (i := 1274) (by decide +kernel), List.mem_of_getElem? (i := 1275) (by decide +kernel)⟩
theorem lw_p104 : lw_okq (⟨"LambdaShelfModel", "add", "(I)V"⟩, 49) := ⟨⟨by decide +kernel, by decide +kernel⟩, List.mem_of_getElem? (i := 951) (by decide +kernel), List.mem_of_getElem? (i := 1278) (by decide +kernel), List.mem_of_getElem? (i := 1279) (by decide +kernel)⟩
theorem lw_p105 : lw_okq (⟨"LambdaShelfModel", "becomes", "(II)V"⟩, 49) := ⟨⟨by decide +kernel, by decide +kernel⟩, List.mem_of_getElem? (i := 951) (by decide +kernel), List.mem_of_getElem? (i := 1282) (by decide +kernel), List.mem_of_getElem? (i := 1283) (by decide +kernel)⟩
theorem lw_p106 : lw_okq (⟨"LambdaShelfModel", "addMore", "(III)V"⟩, 49) := ⟨⟨by decide +kernel, by decide +kernel⟩, List.mem_of_getElem? (i := 951) (by decide +kernel), List.mem_of_getElem? (i := 1286) (by decide +kernel), List.mem_of_getElem? (i := 1287) (by decide +kernel)⟩
theorem lw_p107 : lw_okq (⟨"LambdaShelfModel", "beta", "(I)V"⟩, 49) := ⟨⟨by decide +kernel, by decide +kernel⟩, List.mem_of_getElem? (i := 951) (by decide +kernel), List.mem_of_getElem? (i := 1290) (by decide +kernel), List.mem_of_getElem? (i := 1291) (by decide +kernel)⟩
theorem lw_p108 : lw_okq (⟨"LambdaShelfModel", "count0", "()I"⟩, 49) := ⟨⟨by decide +kernel, by decide +kernel⟩, List.mem_of_getElem? (i := 951) (by decide +kernel), List.mem_of_getElem? (i := 1311) (by decide +kernel), List.mem_of_getElem? (i := 1312) (by decide +kernel)⟩
theorem lw_p109 : lw_okq (⟨"LambdaShelfModel", "isAbstracted", "()Z"⟩, 49) := ⟨⟨by decide +kernel, by decide +kernel⟩, List.mem_of_getElem? (i := 951) (by decide +kernel), List.mem_of_getElem? (i := 1319) (by decide +kernel), List.mem_of_getElem? (i := 1320) (by decide +kernel)⟩
theorem lw_p110 : lw_okq (⟨"LambdaShelfModel", "abstracts", "(I)V"⟩, 49) := ⟨⟨by decide +kernel, by decide +kernel⟩, List.mem_of_getElem? (i := 951) (by decide +kernel), List.mem_of_getElem? (i := 1323) (by decide +kernel), List.mem_of_getElem? (i := 1324) (by decide +kernel)⟩
theorem lw_p111 : lw_okq (⟨"LambdaShelfModel", "hasNaught", "(II)Z"⟩, 49) := ⟨⟨by decide +kernel, by decide +kernel⟩, List.mem_of_getElem? (i := 951) (by decide +kernel), List.mem_of_getElem? (i := 1327) (by decide +kernel), List.mem_of_getElem? (i := 1328) (by decide +kernel)⟩
def lw_privs_7 : List (MethodName × Nat) := [(⟨"LambdaShelfModel", "sayName", "(I)V"⟩, 49), (⟨"LambdaShelfModel", "stepped", "(I)I"⟩, 49), (⟨"LambdaShelfModel", "nextRedex", "(I)I"⟩, 49), (⟨"LambdaShelfModel", "isRedex", "(I)Z"⟩, 49), (⟨"LambdaShelfModel", "isThin", "(I)Z"⟩, 49), (⟨"LambdaShelfModel", "has", "(I)Z"⟩, 49), (⟨"LambdaShelfModel", "hasWithin", "(I)Z"⟩, 49), (⟨"LambdaShelfModel", "addAll", "(II)V"⟩, 49), (⟨"LambdaShelfModel", "add", "(I)V"⟩, 49), (⟨"LambdaShelfModel", "becomes", "(II)V"⟩, 49), (⟨"LambdaShelfModel", "addMore", "(III)V"⟩, 49), (⟨"LambdaShelfModel", "beta", "(I)V"⟩, 49), (⟨"LambdaShelfModel", "count0", "()I"⟩, 49), (⟨"LambdaShelfModel", "isAbstracted", "()Z"⟩, 49), (⟨"LambdaShelfModel", "abstracts", "(I)V"⟩, 49), (⟨"LambdaShelfModel", "hasNaught", "(II)Z"⟩, 49)]
theorem lw_r7 : ∀ q ∈ lw_privs_7, lw_okq q := List.forall_mem_cons.mpr ⟨lw_p96, List.forall_mem_cons.mpr ⟨lw_p97, List.forall_mem_cons.mpr ⟨lw_p98, List.forall_mem_cons.mpr ⟨lw_p99, List.forall_mem_cons.mpr ⟨lw_p100, List.forall_mem_cons.mpr ⟨lw_p101, List.forall_mem_cons.mpr ⟨lw_p102, List.forall_mem_cons.mpr ⟨lw_p103, List.forall_mem_cons.mpr ⟨lw_p104, List.forall_mem_cons.mpr ⟨lw_p105, List.forall_mem_cons.mpr ⟨lw_p106, List.forall_mem_cons.mpr ⟨lw_p107, List.forall_mem_cons.mpr ⟨lw_p108, List.forall_mem_cons.mpr ⟨lw_p109, List.forall_mem_cons.mpr ⟨lw_p110, List.forall_mem_cons.mpr ⟨lw_p111, fun _ h => absurd h List.not_mem_nil⟩⟩⟩⟩⟩⟩⟩⟩⟩⟩⟩⟩⟩⟩⟩⟩
theorem lw_p112 : lw_okq (⟨"LambdaShelfModel", "addLess", "(II)V"⟩, 49) := ⟨⟨by decide +kernel, by decide +kernel⟩, List.mem_of_getElem? (i := 951) (by decide +kernel), List.mem_of_getElem? (i := 1331) (by decide +kernel), List.mem_of_getElem? (i := 1332) (by decide +kernel)⟩
theorem lw_p113 : lw_okq (⟨"LambdaShelfModel", "numberNow", "()I"⟩, 49) := ⟨⟨by decide +kernel, by decide +kernel⟩, List.mem_of_getElem? (i := 951) (by decide +kernel), List.mem_of_getElem? (i := 1339) (by decide +kernel), List.mem_of_getElem? (i := 1340) (by decide +kernel)⟩
theorem lw_p114 : lw_okq (⟨"LambdaShelfModel", "infers", "()I"⟩, 49) := ⟨⟨by decide +kernel, by decide +kernel⟩, List.mem_of_getElem? (i := 951) (by decide +kernel), List.mem_of_getElem? (i := 1351) (by decide +kernel), List.mem_of_getElem? (i := 1352) (by decide +kernel)⟩
theorem lw_p115 : lw_okq (⟨"LambdaShelfModel", "any", "()I"⟩, 49) := ⟨⟨by decide +kernel, by decide +kernel⟩, List.mem_of_getElem? (i := 951) (by decide +kernel), List.mem_of_getElem? (i := 1355) (by decide +kernel), List.mem_of_getElem? (i := 1356) (by decide +kernel)⟩
theorem lw_p116 : lw_okq (⟨"LambdaShelfModel", "arrow", "(II)I"⟩, 49) := ⟨⟨by decide +kernel, by decide +kernel⟩, List.mem_of_getElem? (i := 951) (by decide +kernel), List.mem_of_getElem? (i := 1359) (by decide +kernel), List.mem_of_getElem? (i := 1360) (by decide +kernel)⟩
theorem lw_p117 : lw_okq (⟨"LambdaShelfModel", "unite", "(II)V"⟩, 49) := ⟨⟨by decide +kernel, by decide +kernel⟩, List.mem_of_getElem? (i := 951) (by decide +kernel), List.mem_of_getElem? (i := 1363) (by decide +kernel), List.mem_of_getElem? (i := 1364) (by decide +kernel)⟩
theorem lw_p118 : lw_okq (⟨"LambdaShelfModel", "root", "(I)I"⟩, 49) := ⟨⟨by decide +kernel, by decide +kernel⟩, List.mem_of_getElem? (i := 951) (by decide +kernel), List.mem_of_getElem? (i := 1367) (by decide +kernel), List.mem_of_getElem? (i := 1368) (by decide +kernel)⟩
theorem lw_p119 : lw_okq (⟨"LambdaShelfModel", "typeOfLetter", "(II)I"⟩, 49) := ⟨⟨by decide +kernel, by decide +kernel⟩, List.mem_of_getElem? (i := 951) (by decide +kernel), List.mem_of_getElem? (i := 1371) (by decide +kernel), List.mem_of_getElem? (i := 1372) (by decide +kernel)⟩
theorem lw_p120 : lw_okq (⟨"LambdaShelfModel", "isFinite", "()Z"⟩, 49) := ⟨⟨by decide +kernel, by decide +kernel⟩, List.mem_of_getElem? (i := 951) (by decide +kernel), List.mem_of_getElem? (i := 1375) (by decide +kernel), List.mem_of_getElem? (i := 1376) (by decide +kernel)⟩
theorem lw_p121 : lw_okq (⟨"LambdaShelfModel", "lays", "(I)I"⟩, 49) := ⟨⟨by decide +kernel, by decide +kernel⟩, List.mem_of_getElem? (i := 951) (by decide +kernel), List.mem_of_getElem? (i := 1379) (by decide +kernel), List.mem_of_getElem? (i := 1380) (by decide +kernel)⟩
def lw_privs_8 : List (MethodName × Nat) := [(⟨"LambdaShelfModel", "addLess", "(II)V"⟩, 49), (⟨"LambdaShelfModel", "numberNow", "()I"⟩, 49), (⟨"LambdaShelfModel", "infers", "()I"⟩, 49), (⟨"LambdaShelfModel", "any", "()I"⟩, 49), (⟨"LambdaShelfModel", "arrow", "(II)I"⟩, 49), (⟨"LambdaShelfModel", "unite", "(II)V"⟩, 49), (⟨"LambdaShelfModel", "root", "(I)I"⟩, 49), (⟨"LambdaShelfModel", "typeOfLetter", "(II)I"⟩, 49), (⟨"LambdaShelfModel", "isFinite", "()Z"⟩, 49), (⟨"LambdaShelfModel", "lays", "(I)I"⟩, 49)]
theorem lw_r8 : ∀ q ∈ lw_privs_8, lw_okq q := List.forall_mem_cons.mpr ⟨lw_p112, List.forall_mem_cons.mpr ⟨lw_p113, List.forall_mem_cons.mpr ⟨lw_p114, List.forall_mem_cons.mpr ⟨lw_p115, List.forall_mem_cons.mpr ⟨lw_p116, List.forall_mem_cons.mpr ⟨lw_p117, List.forall_mem_cons.mpr ⟨lw_p118, List.forall_mem_cons.mpr ⟨lw_p119, List.forall_mem_cons.mpr ⟨lw_p120, List.forall_mem_cons.mpr ⟨lw_p121, fun _ h => absurd h List.not_mem_nil⟩⟩⟩⟩⟩⟩⟩⟩⟩⟩
def lw_privs : List (MethodName × Nat) := lw_privs_1 ++ (lw_privs_2 ++ (lw_privs_3 ++ (lw_privs_4 ++ (lw_privs_5 ++ (lw_privs_6 ++ (lw_privs_7 ++ (lw_privs_8)))))))
def lw_tbl : List Cond := k2_sels lw_privs ++ tables_1
theorem lw_privs_ok : ∀ q ∈ lw_privs, lw_okq q := by
  show ∀ q ∈ lw_privs_1 ++ (lw_privs_2 ++ (lw_privs_3 ++ (lw_privs_4 ++ (lw_privs_5 ++ (lw_privs_6 ++ (lw_privs_7 ++ (lw_privs_8))))))), lw_okq q
  exact List.forall_mem_append.mpr ⟨lw_r1, List.forall_mem_append.mpr ⟨lw_r2, List.forall_mem_append.mpr ⟨lw_r3, List.forall_mem_append.mpr ⟨lw_r4, List.forall_mem_append.mpr ⟨lw_r5, List.forall_mem_append.mpr ⟨lw_r6, List.forall_mem_append.mpr ⟨lw_r7, lw_r8⟩⟩⟩⟩⟩⟩⟩
end
section
/-! THE PURE MACHINE, 1: values, locals, operand stacks. A pure reference is a place in a list of cells; retAddr stands for the law's script. pm_rv and its like: what the machine has for it, by the list ad of addresses. -/
abbrev pm_L : Type := List (Nat × Value)
def pm_get (lv : pm_L) (i : Nat) : Option Value := match lv with
  | [] => none
  | q :: r => if q.1 = i then some q.2 else pm_get r i
def pm_set (lv : pm_L) (i : Nat) (v : Value) : pm_L := (i, v) :: lv.filter (fun q => !(q.1 == i) && !(q.1 + 1 == i && q.2.category == 2))
def pm_set2 (lv : pm_L) (i : Nat) (v : Value) : pm_L := (i, v) :: lv.filter (fun q => !(q.1 == i) && (!(q.1 == i + 1) && !(q.1 + 1 == i && q.2.category == 2)))
def pm_rv (bS : Nat) (ad : List Nat) (v w : Value) : Prop := match v with
  | .ref k => ∃ a, ad[k]? = some a ∧ w = .ref a
  | .retAddr _ => w = .ref bS
  | .int x => w = .int x
  | .long x => w = .long x
  | .null => w = .null
  | _ => False
def pm_rs (bS : Nat) (ad : List Nat) : List Value → List Value → Prop
  | [], [] => True
  | v :: r, w :: r' => pm_rv bS ad v w ∧ pm_rs bS ad r r'
  | _, _ => False
def pm_rl (bS : Nat) (ad : List Nat) : pm_L → pm_L → Prop
  | [], [] => True
  | q :: r, q' :: r' => q.1 = q'.1 ∧ pm_rv bS ad q.2 q'.2 ∧ pm_rl bS ad r r'
  | _, _ => False
theorem pm_at_app {ad ad2 : List Nat} {k a : Nat} (h : ad[k]? = some a) : (ad ++ ad2)[k]? = some a := by
  rw [List.getElem?_append_left (List.getElem?_eq_some_iff.mp h).1]; exact h
theorem pm_rv.mono {bS : Nat} {ad ad2 : List Nat} {v w : Value} (h : pm_rv bS ad v w) : pm_rv bS (ad ++ ad2) v w := by
  cases v with
  | ref k => obtain ⟨a, h1, h2⟩ := h; exact ⟨a, pm_at_app h1, h2⟩
  | _ => exact h
theorem pm_rs.mono {bS : Nat} {ad ad2 : List Nat} : ∀ {st st' : List Value}, pm_rs bS ad st st' → pm_rs bS (ad ++ ad2) st st'
  | [], [], _ => trivial
  | _ :: _, _ :: _, h => ⟨h.1.mono, pm_rs.mono h.2⟩
  | [], _ :: _, h => h.elim
  | _ :: _, [], h => h.elim
theorem pm_rl.mono {bS : Nat} {ad ad2 : List Nat} : ∀ {st st' : pm_L}, pm_rl bS ad st st' → pm_rl bS (ad ++ ad2) st st'
  | [], [], _ => trivial
  | _ :: _, _ :: _, h => ⟨h.1, h.2.1.mono, pm_rl.mono h.2.2⟩
  | [], _ :: _, h => h.elim
  | _ :: _, [], h => h.elim
theorem pm_rv.cat {bS : Nat} {ad : List Nat} {v w : Value} (h : pm_rv bS ad v w) : w.category = v.category := by
  cases v with
  | ref k => obtain ⟨a, -, h2⟩ := h; rw [h2]; rfl
  | retAddr n => rw [show w = .ref bS from h]; rfl
  | int x => rw [show w = .int x from h]
  | long x => rw [show w = .long x from h]
  | null => rw [show w = .null from h]
  | float x => exact h.elim
  | double x => exact h.elim
theorem pm_rs_cons {bS : Nat} {ad : List Nat} {v : Value} {r stA : List Value} (h : pm_rs bS ad (v :: r) stA) : ∃ w r', stA = w :: r' ∧ pm_rv bS ad v w ∧ pm_rs bS ad r r' := by
  cases stA with
  | nil => exact h.elim
  | cons w r' => exact ⟨w, r', rfl, h.1, h.2⟩
theorem pm_rs_nil {bS : Nat} {ad : List Nat} {stA : List Value} (h : pm_rs bS ad [] stA) : stA = [] := by
  cases stA with
  | nil => rfl
  | cons w r' => exact h.elim
theorem pm_rs_len {bS : Nat} {ad : List Nat} : ∀ {st st' : List Value}, pm_rs bS ad st st' → st'.length = st.length
  | [], [], _ => rfl
  | _ :: _, _ :: _, h => by simp [pm_rs_len h.2]
  | [], _ :: _, h => h.elim
  | _ :: _, [], h => h.elim
theorem pm_rs_app {bS : Nat} {ad : List Nat} : ∀ {a a' b b' : List Value}, pm_rs bS ad a a' → pm_rs bS ad b b' → pm_rs bS ad (a ++ b) (a' ++ b')
  | [], [], _, _, _, h => h
  | _ :: _, _ :: _, _, _, h, h2 => ⟨h.1, pm_rs_app h.2 h2⟩
  | [], _ :: _, _, _, h, _ => h.elim
  | _ :: _, [], _, _, h, _ => h.elim
theorem pm_rs_rev {bS : Nat} {ad : List Nat} : ∀ {a a' : List Value}, pm_rs bS ad a a' → pm_rs bS ad a.reverse a'.reverse
  | [], [], _ => trivial
  | v :: r, w :: r', h => by
    rw [List.reverse_cons, List.reverse_cons]
    exact pm_rs_app (pm_rs_rev h.2) ⟨h.1, trivial⟩
  | [], _ :: _, h => h.elim
  | _ :: _, [], h => h.elim
theorem pm_rs_split {bS : Nat} {ad : List Nat} : ∀ {a b c : List Value}, pm_rs bS ad (a ++ b) c → ∃ a' b', c = a' ++ b' ∧ pm_rs bS ad a a' ∧ pm_rs bS ad b b'
  | [], b, c, h => ⟨[], c, rfl, trivial, h⟩
  | v :: r, b, c, h => by
    obtain ⟨w, r', rfl, h1, h2⟩ := pm_rs_cons h
    obtain ⟨a', b', rfl, h3, h4⟩ := pm_rs_split h2
    exact ⟨w :: a', b', rfl, ⟨h1, h3⟩, h4⟩
theorem pm_rs_cats {bS : Nat} {ad : List Nat} : ∀ {a a' : List Value}, pm_rs bS ad a a' → (a'.map fun v => v.category) = a.map fun v => v.category
  | [], [], _ => rfl
  | v :: r, w :: r', h => by simp [pm_rs_cats h.2, h.1.cat]
  | [], _ :: _, h => h.elim
  | _ :: _, [], h => h.elim
theorem pm_rl.get {bS : Nat} {ad : List Nat} {i : Nat} {v : Value} : ∀ {lv lvA : pm_L}, pm_rl bS ad lv lvA → pm_get lv i = some v → ∃ w, (i, w) ∈ lvA ∧ pm_rv bS ad v w
  | [], [], _, h => by cases h
  | q :: r, q' :: r', hr, h => by
    unfold pm_get at h
    split at h
    · rename_i hq
      cases h
      refine ⟨q'.2, ?_, hr.2.1⟩
      rw [← hq, hr.1]
      exact List.mem_cons_self
    · obtain ⟨w, h1, h2⟩ := pm_rl.get hr.2.2 h
      exact ⟨w, List.mem_cons_of_mem _ h1, h2⟩
  | [], _ :: _, h, _ => h.elim
  | _ :: _, [], h, _ => h.elim
theorem pm_rl.filt {bS : Nat} {ad : List Nat} {f : Nat × Value → Bool} (hf : ∀ q q' : Nat × Value, q.1 = q'.1 → q'.2.category = q.2.category → f q' = f q) : ∀ {lv lvA : pm_L}, pm_rl bS ad lv lvA → pm_rl bS ad (lv.filter f) (lvA.filter f)
  | [], [], _ => trivial
  | q :: r, q' :: r', hr => by
    have h1 := hf q q' hr.1 hr.2.1.cat
    have h2 := pm_rl.filt hf hr.2.2
    rw [List.filter_cons, List.filter_cons, h1]
    split
    · exact ⟨hr.1, hr.2.1, h2⟩
    · exact h2
  | [], _ :: _, h => h.elim
  | _ :: _, [], h => h.elim
theorem pm_rl.set {bS : Nat} {ad : List Nat} {i : Nat} {v w : Value} {lv lvA : pm_L} (h : pm_rl bS ad lv lvA) (hv : pm_rv bS ad v w) : pm_rl bS ad (pm_set lv i v) (pm_set lvA i w) :=
  ⟨rfl, hv, h.filt (fun q q' h1 h2 => by simp only [h1, h2])⟩
theorem pm_rl.set2 {bS : Nat} {ad : List Nat} {i : Nat} {v w : Value} {lv lvA : pm_L} (h : pm_rl bS ad lv lvA) (hv : pm_rv bS ad v w) : pm_rl bS ad (pm_set2 lv i v) (pm_set2 lvA i w) :=
  ⟨rfl, hv, h.filt (fun q q' h1 h2 => by simp only [h1, h2])⟩
/-! what an instruction does to locals and stack alone -/
def pm_i1 (st : List Value) : Option (Int32 × List Value) := match st with
  | .int x :: r => some (x, r)
  | _ => none
def pm_l1 (st : List Value) : Option (Int64 × List Value) := match st with
  | .long x :: r => some (x, r)
  | _ => none
def pm_c1 (st : List Value) : Option (Value × List Value) := match st with
  | v :: r => if v.category = 1 then some (v, r) else none
  | _ => none
theorem pm_i1_ok {st r : List Value} {x : Int32} (h : pm_i1 st = some (x, r)) : st = .int x :: r := by
  unfold pm_i1 at h; split at h
  · cases h; rfl
  · cases h
theorem pm_l1_ok {st r : List Value} {x : Int64} (h : pm_l1 st = some (x, r)) : st = .long x :: r := by
  unfold pm_l1 at h; split at h
  · cases h; rfl
  · cases h
theorem pm_c1_ok {st r : List Value} {v : Value} (h : pm_c1 st = some (v, r)) : st = v :: r ∧ v.category = 1 := by
  unfold pm_c1 at h; split at h
  · split at h
    · rename_i hc; cases h; exact ⟨rfl, hc⟩
    · cases h
  · cases h
def pm_ldi (lv : pm_L) (i : Nat) (st : List Value) : Option (pm_L × List Value) := match pm_get lv i with
  | some (.int x) => some (lv, .int x :: st)
  | _ => none
def pm_ldl (lv : pm_L) (i : Nat) (st : List Value) : Option (pm_L × List Value) := match pm_get lv i with
  | some (.long x) => some (lv, .long x :: st)
  | _ => none
def pm_lda (lv : pm_L) (i : Nat) (st : List Value) : Option (pm_L × List Value) := match pm_get lv i with
  | some (.ref x) => some (lv, .ref x :: st)
  | some .null => some (lv, .null :: st)
  | some (.retAddr x) => some (lv, .retAddr x :: st)
  | _ => none
def pm_sti (nL : Nat) (lv : pm_L) (i : Nat) (st : List Value) : Option (pm_L × List Value) := match st with
  | .int x :: r => if i < nL then some (pm_set lv i (.int x), r) else none
  | _ => none
def pm_stl (nL : Nat) (lv : pm_L) (i : Nat) (st : List Value) : Option (pm_L × List Value) := match st with
  | .long x :: r => if i + 1 < nL then some (pm_set2 lv i (.long x), r) else none
  | _ => none
def pm_sta (nL : Nat) (lv : pm_L) (i : Nat) (st : List Value) : Option (pm_L × List Value) := match st with
  | .ref x :: r => if i < nL then some (pm_set lv i (.ref x), r) else none
  | .null :: r => if i < nL then some (pm_set lv i .null, r) else none
  | _ => none
def pm_inc (nL : Nat) (lv : pm_L) (i : Nat) (n : Int) (st : List Value) : Option (pm_L × List Value) := match pm_get lv i with
  | some (.int x) => if i < nL then some (pm_set lv i (.int (x + Int32.ofInt n)), st) else none
  | _ => none
def pm_bi (f : Int32 → Int32 → Int32) (lv : pm_L) (st : List Value) : Option (pm_L × List Value) := match st with
  | .int y :: .int x :: r => some (lv, .int (f x y) :: r)
  | _ => none
def pm_bd (f : Int32 → Int32 → Int32) (lv : pm_L) (st : List Value) : Option (pm_L × List Value) := match st with
  | .int y :: .int x :: r => if y = 0 then none else some (lv, .int (f x y) :: r)
  | _ => none
def pm_ui (f : Int32 → Value) (lv : pm_L) (st : List Value) : Option (pm_L × List Value) := match st with
  | .int x :: r => some (lv, f x :: r)
  | _ => none
def pm_bl (f : Int64 → Int64 → Value) (lv : pm_L) (st : List Value) : Option (pm_L × List Value) := match st with
  | .long y :: .long x :: r => some (lv, f x y :: r)
  | _ => none
def pm_ul (f : Int64 → Value) (lv : pm_L) (st : List Value) : Option (pm_L × List Value) := match st with
  | .long x :: r => some (lv, f x :: r)
  | _ => none
def pm_dup (lv : pm_L) (st : List Value) : Option (pm_L × List Value) := match st with
  | v :: r => if v.category = 1 then some (lv, v :: v :: r) else none
  | _ => none
def pm_pop (lv : pm_L) (st : List Value) : Option (pm_L × List Value) := match st with
  | v :: r => if v.category = 1 then some (lv, r) else none
  | _ => none
def pm_dx1 (lv : pm_L) (st : List Value) : Option (pm_L × List Value) := match st with
  | v :: w :: r => if v.category = 1 ∧ w.category = 1 then some (lv, v :: w :: v :: r) else none
  | _ => none
def pm_dx2 (lv : pm_L) (st : List Value) : Option (pm_L × List Value) := match st with
  | v :: w :: u :: r => if v.category = 1 ∧ w.category = 1 ∧ u.category = 1 then some (lv, v :: w :: u :: v :: r) else none
  | _ => none
def pm_du2 (lv : pm_L) (st : List Value) : Option (pm_L × List Value) := match st with
  | v :: w :: r => if v.category = 1 ∧ w.category = 1 then some (lv, v :: w :: v :: w :: r) else none
  | _ => none
def pm_len (i : Instr) : Nat := match i with
  | .bipush _ | .iload _ | .lload _ | .aload _ | .istore _ | .lstore _ | .astore _ | .newarray _ | .ldc _ => 2
  | .sipush _ | .iinc _ _ | .ldc2_w _ | .goto _ | .ifCond _ _ | .if_icmp _ _ | .ifnull _ | .ifnonnull _ | .getfield _ | .putfield _ | .new _ | .anewarray _ | .invokespecial _ | .invokestatic _ | .invokevirtual _ => 3
  | _ => 1
def pm_sim (nL : Nat) (i : Instr) (lv : pm_L) (st : List Value) : Option (pm_L × List Value) := match i with
  | .iconst n => some (lv, .int (Int32.ofInt n) :: st)
  | .bipush n => some (lv, .int (Int8.ofInt n).toInt32 :: st)
  | .sipush n => some (lv, .int (Int16.ofInt n).toInt32 :: st)
  | .lconst n => some (lv, .long (Int64.ofNat n.val) :: st)
  | .aconst_null => some (lv, .null :: st)
  | .iload_n k => pm_ldi lv k.val st
  | .iload k => pm_ldi lv k st
  | .lload_n k => pm_ldl lv k.val st
  | .lload k => pm_ldl lv k st
  | .aload_n k => pm_lda lv k.val st
  | .aload k => pm_lda lv k st
  | .istore_n k => pm_sti nL lv k.val st
  | .istore k => pm_sti nL lv k st
  | .lstore_n k => pm_stl nL lv k.val st
  | .lstore k => pm_stl nL lv k st
  | .astore_n k => pm_sta nL lv k.val st
  | .astore k => pm_sta nL lv k st
  | .iinc k n => pm_inc nL lv k n st
  | .iadd => pm_bi (fun x y => x + y) lv st
  | .isub => pm_bi (fun x y => x - y) lv st
  | .imul => pm_bi (fun x y => x * y) lv st
  | .iand => pm_bi (fun x y => x &&& y) lv st
  | .ior => pm_bi (fun x y => x ||| y) lv st
  | .ishl => pm_bi (fun x y => x <<< (y &&& 31)) lv st
  | .ishr => pm_bi (fun x y => x >>> (y &&& 31)) lv st
  | .iushr => pm_bi (fun x y => (x.toUInt32 >>> (y.toUInt32 &&& Int32.toUInt32 31)).toInt32) lv st
  | .idiv => pm_bd (fun x y => x / y) lv st
  | .irem => pm_bd (fun x y => x - x / y * y) lv st
  | .ineg => pm_ui (fun x => .int (-x)) lv st
  | .i2l => pm_ui (fun x => .long x.toInt64) lv st
  | .i2c => pm_ui (fun x => .int (x.toUInt32 % 65536).toInt32) lv st
  | .l2i => pm_ul (fun x => .int x.toInt32) lv st
  | .ladd => pm_bl (fun x y => .long (x + y)) lv st
  | .lsub => pm_bl (fun x y => .long (x - y)) lv st
  | .lmul => pm_bl (fun x y => .long (x * y)) lv st
  | .lcmp => pm_bl (fun x y => .int (lg_cmp x y)) lv st
  | .dup => pm_dup lv st
  | .pop => pm_pop lv st
  | .dup_x1 => pm_dx1 lv st
  | .dup_x2 => pm_dx2 lv st
  | .dup2 => pm_du2 lv st
  | _ => none
theorem pm_ldi_ok {lv lv2 : pm_L} {i : Nat} {st st2 : List Value} (h : pm_ldi lv i st = some (lv2, st2)) : ∃ x, pm_get lv i = some (.int x) ∧ lv2 = lv ∧ st2 = .int x :: st := by
  unfold pm_ldi at h; split at h
  · rename_i x hx; cases h; exact ⟨x, hx, rfl, rfl⟩
  · cases h
theorem pm_ldl_ok {lv lv2 : pm_L} {i : Nat} {st st2 : List Value} (h : pm_ldl lv i st = some (lv2, st2)) : ∃ x, pm_get lv i = some (.long x) ∧ lv2 = lv ∧ st2 = .long x :: st := by
  unfold pm_ldl at h; split at h
  · rename_i x hx; cases h; exact ⟨x, hx, rfl, rfl⟩
  · cases h
theorem pm_lda_ok {lv lv2 : pm_L} {i : Nat} {st st2 : List Value} (h : pm_lda lv i st = some (lv2, st2)) : ∃ v, pm_get lv i = some v ∧ lv2 = lv ∧ st2 = v :: st ∧ ((∃ x, v = .ref x) ∨ v = .null ∨ ∃ x, v = .retAddr x) := by
  unfold pm_lda at h; split at h
  · rename_i x hx; cases h; exact ⟨_, hx, rfl, rfl, Or.inl ⟨_, rfl⟩⟩
  · rename_i hx; cases h; exact ⟨_, hx, rfl, rfl, Or.inr (Or.inl rfl)⟩
  · rename_i x hx; cases h; exact ⟨_, hx, rfl, rfl, Or.inr (Or.inr ⟨_, rfl⟩)⟩
  · cases h
theorem pm_sti_ok {nL : Nat} {lv lv2 : pm_L} {i : Nat} {st st2 : List Value} (h : pm_sti nL lv i st = some (lv2, st2)) : ∃ x r, st = .int x :: r ∧ i < nL ∧ lv2 = pm_set lv i (.int x) ∧ st2 = r := by
  unfold pm_sti at h; split at h
  · split at h
    · rename_i hn; cases h; exact ⟨_, _, rfl, hn, rfl, rfl⟩
    · cases h
  · cases h
theorem pm_stl_ok {nL : Nat} {lv lv2 : pm_L} {i : Nat} {st st2 : List Value} (h : pm_stl nL lv i st = some (lv2, st2)) : ∃ x r, st = .long x :: r ∧ i + 1 < nL ∧ lv2 = pm_set2 lv i (.long x) ∧ st2 = r := by
  unfold pm_stl at h; split at h
  · split at h
    · rename_i hn; cases h; exact ⟨_, _, rfl, hn, rfl, rfl⟩
    · cases h
  · cases h
theorem pm_sta_ok {nL : Nat} {lv lv2 : pm_L} {i : Nat} {st st2 : List Value} (h : pm_sta nL lv i st = some (lv2, st2)) : ∃ v r, st = v :: r ∧ i < nL ∧ lv2 = pm_set lv i v ∧ st2 = r ∧ ((∃ x, v = .ref x) ∨ v = .null) := by
  unfold pm_sta at h; split at h
  · split at h
    · rename_i hn; cases h; exact ⟨_, _, rfl, hn, rfl, rfl, Or.inl ⟨_, rfl⟩⟩
    · cases h
  · split at h
    · rename_i hn; cases h; exact ⟨_, _, rfl, hn, rfl, rfl, Or.inr rfl⟩
    · cases h
  · cases h
theorem pm_inc_ok {nL : Nat} {lv lv2 : pm_L} {i : Nat} {n : Int} {st st2 : List Value} (h : pm_inc nL lv i n st = some (lv2, st2)) : ∃ x, pm_get lv i = some (.int x) ∧ i < nL ∧ lv2 = pm_set lv i (.int (x + Int32.ofInt n)) ∧ st2 = st := by
  unfold pm_inc at h; split at h
  · rename_i x hx
    split at h
    · rename_i hn; cases h; exact ⟨x, hx, hn, rfl, rfl⟩
    · cases h
  · cases h
theorem pm_bi_ok {f : Int32 → Int32 → Int32} {lv lv2 : pm_L} {st st2 : List Value} (h : pm_bi f lv st = some (lv2, st2)) : ∃ x y r, st = .int y :: .int x :: r ∧ lv2 = lv ∧ st2 = .int (f x y) :: r := by
  unfold pm_bi at h; split at h
  · cases h; exact ⟨_, _, _, rfl, rfl, rfl⟩
  · cases h
theorem pm_bd_ok {f : Int32 → Int32 → Int32} {lv lv2 : pm_L} {st st2 : List Value} (h : pm_bd f lv st = some (lv2, st2)) : ∃ x y r, st = .int y :: .int x :: r ∧ ¬ y = 0 ∧ lv2 = lv ∧ st2 = .int (f x y) :: r := by
  unfold pm_bd at h; split at h
  · split at h
    · cases h
    · rename_i hn; cases h; exact ⟨_, _, _, rfl, hn, rfl, rfl⟩
  · cases h
theorem pm_ui_ok {f : Int32 → Value} {lv lv2 : pm_L} {st st2 : List Value} (h : pm_ui f lv st = some (lv2, st2)) : ∃ x r, st = .int x :: r ∧ lv2 = lv ∧ st2 = f x :: r := by
  unfold pm_ui at h; split at h
  · cases h; exact ⟨_, _, rfl, rfl, rfl⟩
  · cases h
theorem pm_ul_ok {f : Int64 → Value} {lv lv2 : pm_L} {st st2 : List Value} (h : pm_ul f lv st = some (lv2, st2)) : ∃ x r, st = .long x :: r ∧ lv2 = lv ∧ st2 = f x :: r := by
  unfold pm_ul at h; split at h
  · cases h; exact ⟨_, _, rfl, rfl, rfl⟩
  · cases h
theorem pm_bl_ok {f : Int64 → Int64 → Value} {lv lv2 : pm_L} {st st2 : List Value} (h : pm_bl f lv st = some (lv2, st2)) : ∃ x y r, st = .long y :: .long x :: r ∧ lv2 = lv ∧ st2 = f x y :: r := by
  unfold pm_bl at h; split at h
  · cases h; exact ⟨_, _, _, rfl, rfl, rfl⟩
  · cases h
theorem pm_rs_i {bS : Nat} {ad : List Nat} {x : Int32} {r stA : List Value} (h : pm_rs bS ad (.int x :: r) stA) : ∃ r', stA = .int x :: r' ∧ pm_rs bS ad r r' := by
  obtain ⟨w, r', rfl, hw, hr⟩ := pm_rs_cons h
  exact ⟨r', by rw [show w = .int x from hw], hr⟩
theorem pm_rs_l {bS : Nat} {ad : List Nat} {x : Int64} {r stA : List Value} (h : pm_rs bS ad (.long x :: r) stA) : ∃ r', stA = .long x :: r' ∧ pm_rs bS ad r r' := by
  obtain ⟨w, r', rfl, hw, hr⟩ := pm_rs_cons h
  exact ⟨r', by rw [show w = .long x from hw], hr⟩
theorem pm_rs_n {bS : Nat} {ad : List Nat} {r stA : List Value} (h : pm_rs bS ad (.null :: r) stA) : ∃ r', stA = .null :: r' ∧ pm_rs bS ad r r' := by
  obtain ⟨w, r', rfl, hw, hr⟩ := pm_rs_cons h
  exact ⟨r', by rw [show w = .null from hw], hr⟩
theorem pm_rs_r {bS : Nat} {ad : List Nat} {k : Nat} {r stA : List Value} (h : pm_rs bS ad (.ref k :: r) stA) : ∃ a r', ad[k]? = some a ∧ stA = .ref a :: r' ∧ pm_rs bS ad r r' := by
  obtain ⟨w, r', rfl, ⟨a, ha, rfl⟩, hr⟩ := pm_rs_cons h
  exact ⟨a, r', ha, rfl, hr⟩
theorem pm_rs_s {bS : Nat} {ad : List Nat} {k : Nat} {r stA : List Value} (h : pm_rs bS ad (.retAddr k :: r) stA) : ∃ r', stA = .ref bS :: r' ∧ pm_rs bS ad r r' := by
  obtain ⟨w, r', rfl, hw, hr⟩ := pm_rs_cons h
  exact ⟨r', by rw [show w = .ref bS from hw], hr⟩
section PMSIM
variable {p : Program} {l : Launch} {e : Env} {R : Room} {s : State} {m : MethodId} {args : Array Value} {below : List Frame} {meth : Method} {c : Code} {H : Heap} {locs : List Loc} {cells slots : Nat} {Q : State → Prop}
variable {cc : ByteArray} {pc nL : Nat} {ls : Array Slot} {bS : Nat} {ad : List Nat}
set_option maxHeartbeats 4000000 in
theorem pm_sim_ok (hx : p.tables.exec = Jvm.exec) (hb : c.code = cc) {i : Instr} {lv lv2 lvA : pm_L} {st st2 stA : List Value} (h : pm_sim nL i lv st = some (lv2, st2)) (hd : decode cc pc = .ok (i, pm_len i)) (hl : lv_has ls nL lvA) (hv : pm_rl bS ad lv lvA) (hs : pm_rs bS ad st stA)
    (kk : ∀ (ls2 : Array Slot) (lvA2 : pm_L) (stA2 : List Value), lv_has ls2 nL lvA2 → pm_rl bS ad lv2 lvA2 → pm_rs bS ad st2 stA2 → W p l e R s m args below meth c H locs cells slots Q (F0 m (pc + pm_len i) ls2 stA2)) : W p l e R s m args below meth c H locs cells slots Q (F0 m pc ls stA) := by
  cases i
  case iconst n => cases h; exact lv_iconst hx hb hd rfl (kk ls lvA _ hl hv ⟨rfl, hs⟩)
  case bipush n => cases h; exact lv_bipush hx hb hd rfl (kk ls lvA _ hl hv ⟨rfl, hs⟩)
  case sipush n => cases h; exact lv_sipush hx hb hd rfl (kk ls lvA _ hl hv ⟨rfl, hs⟩)
  case lconst n => cases h; exact lv_lconst hx hb hd rfl (kk ls lvA _ hl hv ⟨rfl, hs⟩)
  case aconst_null => cases h; exact lv_null hx hb hd (kk ls lvA _ hl hv ⟨rfl, hs⟩)
  case iload_n k =>
    obtain ⟨x, hg, rfl, rfl⟩ := pm_ldi_ok h
    obtain ⟨w, hm, hw⟩ := hv.get hg
    rw [show w = .int x from hw] at hm
    exact lv_iload_n hx hb hd rfl (hl.2.2 _ hm) (kk ls lvA _ hl hv ⟨rfl, hs⟩)
  case iload k =>
    obtain ⟨x, hg, rfl, rfl⟩ := pm_ldi_ok h
    obtain ⟨w, hm, hw⟩ := hv.get hg
    rw [show w = .int x from hw] at hm
    exact lv_iload hx hb hd (hl.2.2 _ hm) (kk ls lvA _ hl hv ⟨rfl, hs⟩)
  case lload_n k =>
    obtain ⟨x, hg, rfl, rfl⟩ := pm_ldl_ok h
    obtain ⟨w, hm, hw⟩ := hv.get hg
    rw [show w = .long x from hw] at hm
    exact lv_lload_n hx hb hd rfl (hl.2.2 _ hm) (kk ls lvA _ hl hv ⟨rfl, hs⟩)
  case lload k =>
    obtain ⟨x, hg, rfl, rfl⟩ := pm_ldl_ok h
    obtain ⟨w, hm, hw⟩ := hv.get hg
    rw [show w = .long x from hw] at hm
    exact lv_lload hx hb hd (hl.2.2 _ hm) (kk ls lvA _ hl hv ⟨rfl, hs⟩)
  case aload_n k =>
    obtain ⟨v, hg, rfl, rfl, hc⟩ := pm_lda_ok h
    obtain ⟨w, hm, hw⟩ := hv.get hg
    rcases hc with ⟨x, rfl⟩ | rfl | ⟨x, rfl⟩
    · obtain ⟨a, ha, rfl⟩ := id hw
      exact lv_aload_n hx hb hd rfl (hl.2.2 _ hm) (kk ls lvA _ hl hv ⟨hw, hs⟩)
    · rw [show w = .null from hw] at hm
      exact lv_aload_nN hx hb hd rfl (hl.2.2 _ hm) (kk ls lvA _ hl hv ⟨rfl, hs⟩)
    · rw [show w = .ref bS from hw] at hm
      exact lv_aload_n hx hb hd rfl (hl.2.2 _ hm) (kk ls lvA _ hl hv ⟨rfl, hs⟩)
  case aload k =>
    obtain ⟨v, hg, rfl, rfl, hc⟩ := pm_lda_ok h
    obtain ⟨w, hm, hw⟩ := hv.get hg
    rcases hc with ⟨x, rfl⟩ | rfl | ⟨x, rfl⟩
    · obtain ⟨a, ha, rfl⟩ := id hw
      exact lv_aload hx hb hd (hl.2.2 _ hm) (kk ls lvA _ hl hv ⟨hw, hs⟩)
    · rw [show w = .null from hw] at hm
      exact lv_aloadN hx hb hd (hl.2.2 _ hm) (kk ls lvA _ hl hv ⟨rfl, hs⟩)
    · rw [show w = .ref bS from hw] at hm
      exact lv_aload hx hb hd (hl.2.2 _ hm) (kk ls lvA _ hl hv ⟨rfl, hs⟩)
  case istore_n k =>
    obtain ⟨x, r, rfl, hn, rfl, rfl⟩ := pm_sti_ok h
    obtain ⟨r', rfl, hr⟩ := pm_rs_i hs
    exact lv_istore_n (lv' := pm_set lvA k.val (.int x)) hx hb hd rfl hl hn rfl (fun ls2 h2 => kk ls2 _ _ h2 (hv.set rfl) hr)
  case istore k =>
    obtain ⟨x, r, rfl, hn, rfl, rfl⟩ := pm_sti_ok h
    obtain ⟨r', rfl, hr⟩ := pm_rs_i hs
    exact lv_istore (lv' := pm_set lvA k (.int x)) hx hb hd hl hn rfl (fun ls2 h2 => kk ls2 _ _ h2 (hv.set rfl) hr)
  case lstore_n k =>
    obtain ⟨x, r, rfl, hn, rfl, rfl⟩ := pm_stl_ok h
    obtain ⟨r', rfl, hr⟩ := pm_rs_l hs
    exact lv_lstore_n (lv' := pm_set2 lvA k.val (.long x)) hx hb hd rfl hl hn rfl (fun ls2 h2 => kk ls2 _ _ h2 (hv.set2 rfl) hr)
  case lstore k =>
    obtain ⟨x, r, rfl, hn, rfl, rfl⟩ := pm_stl_ok h
    obtain ⟨r', rfl, hr⟩ := pm_rs_l hs
    exact lv_lstore (lv' := pm_set2 lvA k (.long x)) hx hb hd hl hn rfl (fun ls2 h2 => kk ls2 _ _ h2 (hv.set2 rfl) hr)
  case astore_n k =>
    obtain ⟨v, r, rfl, hn, rfl, rfl, hc⟩ := pm_sta_ok h
    obtain ⟨w, r', rfl, hw, hr⟩ := pm_rs_cons hs
    rcases hc with ⟨x, rfl⟩ | rfl
    · obtain ⟨a, ha, rfl⟩ := id hw
      exact lv_astore_n (lv' := pm_set lvA k.val (.ref a)) hx hb hd rfl hl hn rfl (fun ls2 h2 => kk ls2 _ _ h2 (hv.set hw) hr)
    · obtain rfl : w = .null := hw
      exact lv_astore_nN (lv' := pm_set lvA k.val .null) hx hb hd rfl hl hn rfl (fun ls2 h2 => kk ls2 _ _ h2 (hv.set rfl) hr)
  case astore k =>
    obtain ⟨v, r, rfl, hn, rfl, rfl, hc⟩ := pm_sta_ok h
    obtain ⟨w, r', rfl, hw, hr⟩ := pm_rs_cons hs
    rcases hc with ⟨x, rfl⟩ | rfl
    · obtain ⟨a, ha, rfl⟩ := id hw
      exact lv_astore (lv' := pm_set lvA k (.ref a)) hx hb hd hl hn rfl (fun ls2 h2 => kk ls2 _ _ h2 (hv.set hw) hr)
    · obtain rfl : w = .null := hw
      exact lv_astoreN (lv' := pm_set lvA k .null) hx hb hd hl hn rfl (fun ls2 h2 => kk ls2 _ _ h2 (hv.set rfl) hr)
  case iinc k n =>
    obtain ⟨x, hg, hn, rfl, rfl⟩ := pm_inc_ok h
    obtain ⟨w, hm, hw⟩ := hv.get hg
    rw [show w = .int x from hw] at hm
    obtain ⟨j, hj⟩ := List.getElem?_of_mem hm
    exact lv_iinc (lv' := pm_set lvA k (.int (x + Int32.ofInt n))) hx hb hd hl hj rfl hn rfl (fun ls2 h2 => kk ls2 _ _ h2 (hv.set rfl) hs)
  case iadd =>
    obtain ⟨x, y, r, rfl, rfl, rfl⟩ := pm_bi_ok h
    obtain ⟨r1, rfl, h1⟩ := pm_rs_i hs
    obtain ⟨r2, rfl, h2⟩ := pm_rs_i h1
    exact lv_iadd hx hb hd (kk ls lvA _ hl hv ⟨rfl, h2⟩)
  case isub =>
    obtain ⟨x, y, r, rfl, rfl, rfl⟩ := pm_bi_ok h
    obtain ⟨r1, rfl, h1⟩ := pm_rs_i hs
    obtain ⟨r2, rfl, h2⟩ := pm_rs_i h1
    exact lv_isub hx hb hd (kk ls lvA _ hl hv ⟨rfl, h2⟩)
  case imul =>
    obtain ⟨x, y, r, rfl, rfl, rfl⟩ := pm_bi_ok h
    obtain ⟨r1, rfl, h1⟩ := pm_rs_i hs
    obtain ⟨r2, rfl, h2⟩ := pm_rs_i h1
    exact lv_imul hx hb hd (kk ls lvA _ hl hv ⟨rfl, h2⟩)
  case iand =>
    obtain ⟨x, y, r, rfl, rfl, rfl⟩ := pm_bi_ok h
    obtain ⟨r1, rfl, h1⟩ := pm_rs_i hs
    obtain ⟨r2, rfl, h2⟩ := pm_rs_i h1
    exact lv_iand hx hb hd (kk ls lvA _ hl hv ⟨rfl, h2⟩)
  case ior =>
    obtain ⟨x, y, r, rfl, rfl, rfl⟩ := pm_bi_ok h
    obtain ⟨r1, rfl, h1⟩ := pm_rs_i hs
    obtain ⟨r2, rfl, h2⟩ := pm_rs_i h1
    exact lv_ior hx hb hd (kk ls lvA _ hl hv ⟨rfl, h2⟩)
  case ishl =>
    obtain ⟨x, y, r, rfl, rfl, rfl⟩ := pm_bi_ok h
    obtain ⟨r1, rfl, h1⟩ := pm_rs_i hs
    obtain ⟨r2, rfl, h2⟩ := pm_rs_i h1
    exact lv_ishl hx hb hd (kk ls lvA _ hl hv ⟨rfl, h2⟩)
  case ishr =>
    obtain ⟨x, y, r, rfl, rfl, rfl⟩ := pm_bi_ok h
    obtain ⟨r1, rfl, h1⟩ := pm_rs_i hs
    obtain ⟨r2, rfl, h2⟩ := pm_rs_i h1
    exact lv_ishr hx hb hd (kk ls lvA _ hl hv ⟨rfl, h2⟩)
  case iushr =>
    obtain ⟨x, y, r, rfl, rfl, rfl⟩ := pm_bi_ok h
    obtain ⟨r1, rfl, h1⟩ := pm_rs_i hs
    obtain ⟨r2, rfl, h2⟩ := pm_rs_i h1
    exact lv_iushr hx hb hd rfl (kk ls lvA _ hl hv ⟨rfl, h2⟩)
  case idiv =>
    obtain ⟨x, y, r, rfl, hy, rfl, rfl⟩ := pm_bd_ok h
    obtain ⟨r1, rfl, h1⟩ := pm_rs_i hs
    obtain ⟨r2, rfl, h2⟩ := pm_rs_i h1
    exact lv_idiv hx hb hd hy (kk ls lvA _ hl hv ⟨rfl, h2⟩)
  case irem =>
    obtain ⟨x, y, r, rfl, hy, rfl, rfl⟩ := pm_bd_ok h
    obtain ⟨r1, rfl, h1⟩ := pm_rs_i hs
    obtain ⟨r2, rfl, h2⟩ := pm_rs_i h1
    exact lv_irem hx hb hd hy (kk ls lvA _ hl hv ⟨rfl, h2⟩)
  case ineg =>
    obtain ⟨x, r, rfl, rfl, rfl⟩ := pm_ui_ok h
    obtain ⟨r1, rfl, h1⟩ := pm_rs_i hs
    exact lv_ineg hx hb hd (kk ls lvA _ hl hv ⟨rfl, h1⟩)
  case i2l =>
    obtain ⟨x, r, rfl, rfl, rfl⟩ := pm_ui_ok h
    obtain ⟨r1, rfl, h1⟩ := pm_rs_i hs
    exact lv_i2l hx hb hd rfl (kk ls lvA _ hl hv ⟨rfl, h1⟩)
  case i2c =>
    obtain ⟨x, r, rfl, rfl, rfl⟩ := pm_ui_ok h
    obtain ⟨r1, rfl, h1⟩ := pm_rs_i hs
    exact lv_i2c hx hb hd rfl (kk ls lvA _ hl hv ⟨rfl, h1⟩)
  case l2i =>
    obtain ⟨x, r, rfl, rfl, rfl⟩ := pm_ul_ok h
    obtain ⟨r1, rfl, h1⟩ := pm_rs_l hs
    exact lv_l2i hx hb hd rfl (kk ls lvA _ hl hv ⟨rfl, h1⟩)
  case ladd =>
    obtain ⟨x, y, r, rfl, rfl, rfl⟩ := pm_bl_ok h
    obtain ⟨r1, rfl, h1⟩ := pm_rs_l hs
    obtain ⟨r2, rfl, h2⟩ := pm_rs_l h1
    exact lv_ladd hx hb hd (kk ls lvA _ hl hv ⟨rfl, h2⟩)
  case lsub =>
    obtain ⟨x, y, r, rfl, rfl, rfl⟩ := pm_bl_ok h
    obtain ⟨r1, rfl, h1⟩ := pm_rs_l hs
    obtain ⟨r2, rfl, h2⟩ := pm_rs_l h1
    exact lv_lsub hx hb hd (kk ls lvA _ hl hv ⟨rfl, h2⟩)
  case lmul =>
    obtain ⟨x, y, r, rfl, rfl, rfl⟩ := pm_bl_ok h
    obtain ⟨r1, rfl, h1⟩ := pm_rs_l hs
    obtain ⟨r2, rfl, h2⟩ := pm_rs_l h1
    exact lv_lmul hx hb hd (kk ls lvA _ hl hv ⟨rfl, h2⟩)
  case lcmp =>
    obtain ⟨x, y, r, rfl, rfl, rfl⟩ := pm_bl_ok h
    obtain ⟨r1, rfl, h1⟩ := pm_rs_l hs
    obtain ⟨r2, rfl, h2⟩ := pm_rs_l h1
    exact W.lcmp hx hb hd (kk ls lvA _ hl hv ⟨rfl, h2⟩)
  case dup =>
    replace h : pm_dup lv st = some (lv2, st2) := h
    unfold pm_dup at h
    split at h
    · split at h
      · rename_i v r hc
        cases h
        obtain ⟨w, r', rfl, hw, hr⟩ := pm_rs_cons hs
        exact lv_dup hx hb hd (hw.cat.trans hc) (kk ls lvA _ hl hv ⟨hw, hw, hr⟩)
      · cases h
    · cases h
  case pop =>
    replace h : pm_pop lv st = some (lv2, st2) := h
    unfold pm_pop at h
    split at h
    · split at h
      · rename_i v r hc
        cases h
        obtain ⟨w, r', rfl, hw, hr⟩ := pm_rs_cons hs
        exact lv_pop hx hb hd (hw.cat.trans hc) (kk ls lvA _ hl hv hr)
      · cases h
    · cases h
  case dup_x1 =>
    replace h : pm_dx1 lv st = some (lv2, st2) := h
    unfold pm_dx1 at h
    split at h
    · split at h
      · rename_i v u r hc
        cases h
        obtain ⟨w, r', rfl, hw, hr⟩ := pm_rs_cons hs
        obtain ⟨w2, r2, rfl, hw2, hr2⟩ := pm_rs_cons hr
        exact lv_dup_x1 hx hb hd (hw.cat.trans hc.1) (hw2.cat.trans hc.2) (kk ls lvA _ hl hv ⟨hw, hw2, hw, hr2⟩)
      · cases h
    · cases h
  case dup_x2 =>
    replace h : pm_dx2 lv st = some (lv2, st2) := h
    unfold pm_dx2 at h
    split at h
    · split at h
      · rename_i v u t r hc
        cases h
        obtain ⟨w, r', rfl, hw, hr⟩ := pm_rs_cons hs
        obtain ⟨w2, r2, rfl, hw2, hr2⟩ := pm_rs_cons hr
        obtain ⟨w3, r3, rfl, hw3, hr3⟩ := pm_rs_cons hr2
        exact lv_dup_x2 hx hb hd (hw.cat.trans hc.1) (hw2.cat.trans hc.2.1) (hw3.cat.trans hc.2.2) (kk ls lvA _ hl hv ⟨hw, hw2, hw3, hw, hr3⟩)
      · cases h
    · cases h
  case dup2 =>
    replace h : pm_du2 lv st = some (lv2, st2) := h
    unfold pm_du2 at h
    split at h
    · split at h
      · rename_i v u r hc
        cases h
        obtain ⟨w, r', rfl, hw, hr⟩ := pm_rs_cons hs
        obtain ⟨w2, r2, rfl, hw2, hr2⟩ := pm_rs_cons hr
        exact lv_dup2_11 hx hb hd (hw.cat.trans hc.1) (hw2.cat.trans hc.2) (kk ls lvA _ hl hv ⟨hw, hw2, hw, hw2, hr2⟩)
      · cases h
    · cases h
  all_goals exact nomatch (show (none : Option (pm_L × List Value)) = some (lv2, st2) from h)
end PMSIM
end
section
/-! THE PURE MACHINE, 2: jumps and switches -/
def pm_tgt (pc : Nat) (off : Int) : Option Nat := match (pc : Int) + off with
  | .ofNat t => some t
  | .negSucc _ => none
theorem pm_tgt_ok {pc t : Nat} {off : Int} (h : pm_tgt pc off = some t) : (pc : Int) + off = (t : Int) := by
  unfold pm_tgt at h
  split at h
  · rename_i u hu; cases h; exact hu
  · cases h
def pm_cz (c : Jvm.ClassFile.Cond) (x y : Int32) : Bool := match c with
  | .eq => decide (x = y)
  | .ne => !decide (x = y)
  | .lt => decide (x < y)
  | .ge => decide (y ≤ x)
  | .gt => decide (y < x)
  | .le => decide (x ≤ y)
def pm_isw (i : Instr) : Bool := match i with
  | .tableswitch _ _ _ _ => true
  | .lookupswitch _ _ => true
  | _ => false
def pm_jto (pc : Nat) (off : Int) (st : List Value) : Option (Nat × List Value) := match pm_tgt pc off with
  | some t => some (t, st)
  | none => none
def pm_jc (b : Bool) (pc : Nat) (off : Int) (st : List Value) : Option (Nat × List Value) := match pm_tgt pc off with
  | some t => some (if b = true then t else pc + 3, st)
  | none => none
theorem pm_jto_ok {pc t : Nat} {off : Int} {st st2 : List Value} (h : pm_jto pc off st = some (t, st2)) : (pc : Int) + off = (t : Int) ∧ st2 = st := by
  unfold pm_jto at h
  split at h
  · rename_i u hu; cases h; exact ⟨pm_tgt_ok hu, rfl⟩
  · cases h
theorem pm_jc_ok {b : Bool} {pc t : Nat} {off : Int} {st st2 : List Value} (h : pm_jc b pc off st = some (t, st2)) : ∃ u : Nat, (pc : Int) + off = (u : Int) ∧ st2 = st ∧ (b = true → t = u) ∧ (b = false → t = pc + 3) := by
  unfold pm_jc at h
  split at h
  · rename_i u hu
    cases h
    refine ⟨u, pm_tgt_ok hu, rfl, fun q => by rw [if_pos q], fun q => by rw [if_neg (by rw [q]; decide)]⟩
  · cases h
def pm_jz (c : Jvm.ClassFile.Cond) (off : Int) (pc : Nat) (st : List Value) : Option (Nat × List Value) := match st with
  | .int x :: r => pm_jc (pm_cz c x 0) pc off r
  | _ => none
def pm_j2 (c : Jvm.ClassFile.Cond) (off : Int) (pc : Nat) (st : List Value) : Option (Nat × List Value) := match st with
  | .int y :: .int x :: r => pm_jc (pm_cz c x y) pc off r
  | _ => none
def pm_jn (off : Int) (pc : Nat) (st : List Value) : Option (Nat × List Value) := match st with
  | .null :: r => pm_jto pc off r
  | .ref _ :: r => some (pc + 3, r)
  | _ => none
def pm_jm (off : Int) (pc : Nat) (st : List Value) : Option (Nat × List Value) := match st with
  | .null :: r => some (pc + 3, r)
  | .ref _ :: r => pm_jto pc off r
  | _ => none
def pm_ts (d lo hi : Int) (offs : Array Int) (pc : Nat) (st : List Value) : Option (Nat × List Value) := match st with
  | .int x :: r => if x.toInt < lo ∨ hi < x.toInt then pm_jto pc d r else match offs[(x.toInt - lo).toNat]? with
    | some o => pm_jto pc o r
    | none => none
  | _ => none
def pm_lks (d : Int) (ps : Array (Int × Int)) (pc : Nat) (st : List Value) : Option (Nat × List Value) := match st with
  | .int x :: r => if (ps.toList.zip (ps.toList.drop 1)).all (fun (a, next) => a.1 < next.1) = true then pm_jto pc (Op.lookupswitch.offset ps.toList d x.toInt) r else none
  | _ => none
def pm_jmp (i : Instr) (pc : Nat) (st : List Value) : Option (Nat × List Value) := match i with
  | .goto off => pm_jto pc off st
  | .ifCond c off => pm_jz c off pc st
  | .if_icmp c off => pm_j2 c off pc st
  | .ifnull off => pm_jn off pc st
  | .ifnonnull off => pm_jm off pc st
  | .tableswitch d lo hi offs => pm_ts d lo hi offs pc st
  | .lookupswitch d ps => pm_lks d ps pc st
  | _ => none
theorem pm_cz_eq {x y : Int32} : pm_cz .eq x y = true ↔ x = y := by simp [pm_cz]
theorem pm_cz_ne {x y : Int32} : pm_cz .ne x y = true ↔ ¬ x = y := by simp [pm_cz]
theorem pm_cz_lt {x y : Int32} : pm_cz .lt x y = true ↔ x < y := by simp [pm_cz]
theorem pm_cz_ge {x y : Int32} : pm_cz .ge x y = true ↔ y ≤ x := by simp [pm_cz]
theorem pm_cz_gt {x y : Int32} : pm_cz .gt x y = true ↔ y < x := by simp [pm_cz]
theorem pm_cz_le {x y : Int32} : pm_cz .le x y = true ↔ x ≤ y := by simp [pm_cz]
theorem pm_bf {b : Bool} {P : Prop} (h : b = true ↔ P) (n : ¬ P) : b = false := by
  cases b
  · rfl
  · exact absurd (h.mp rfl) n
section PMJMP
variable {p : Program} {l : Launch} {e : Env} {R : Room} {s : State} {m : MethodId} {args : Array Value} {below : List Frame} {meth : Method} {c : Code} {H : Heap} {locs : List Loc} {cells slots : Nat} {Q : State → Prop}
variable {cc : ByteArray} {pc nL : Nat} {ls : Array Slot} {bS : Nat} {ad : List Nat}
theorem pm_jmp_ok (hx : p.tables.exec = Jvm.exec) (hb : c.code = cc) {i : Instr} {pc2 len : Nat} {st st2 stA : List Value} (h : pm_jmp i pc st = some (pc2, st2)) (hd : decode cc pc = .ok (i, len)) (hk : pm_isw i = true ∨ len = pm_len i) (hs : pm_rs bS ad st stA)
    (kk : ∀ stA2 : List Value, pm_rs bS ad st2 stA2 → W p l e R s m args below meth c H locs cells slots Q (F0 m pc2 ls stA2)) : W p l e R s m args below meth c H locs cells slots Q (F0 m pc ls stA) := by
  cases i
  case goto off =>
    obtain ⟨ht, rfl⟩ := pm_jto_ok h
    rcases hk with hk | hk
    · cases hk
    · subst hk
      exact lv_goto hx hb hd ht (kk _ hs)
  case ifCond cn off =>
    rcases hk with hk | hk
    · cases hk
    subst hk
    replace h : pm_jz cn off pc st = some (pc2, st2) := h
    unfold pm_jz at h
    split at h
    · rename_i x r
      obtain ⟨r1, rfl, h1⟩ := pm_rs_i hs
      obtain ⟨u, ht, rfl, hy, hn⟩ := pm_jc_ok h
      have k1 := kk _ h1
      cases cn
      · exact lv_if_eq hx hb hd ht (fun q => by rw [← hy (pm_cz_eq.mpr q)]; exact k1) (fun q => by rw [← hn (pm_bf pm_cz_eq q)]; exact k1)
      · exact lv_if_ne hx hb hd ht (fun q => by rw [← hy (pm_cz_ne.mpr q)]; exact k1) (fun q => by rw [← hn (pm_bf pm_cz_ne (fun z => z q))]; exact k1)
      · exact lv_if_lt hx hb hd ht (fun q => by rw [← hy (pm_cz_lt.mpr q)]; exact k1) (fun q => by rw [← hn (pm_bf pm_cz_lt q)]; exact k1)
      · exact lv_if_ge hx hb hd ht (fun q => by rw [← hy (pm_cz_ge.mpr q)]; exact k1) (fun q => by rw [← hn (pm_bf pm_cz_ge q)]; exact k1)
      · exact lv_if_gt hx hb hd ht (fun q => by rw [← hy (pm_cz_gt.mpr q)]; exact k1) (fun q => by rw [← hn (pm_bf pm_cz_gt q)]; exact k1)
      · exact lv_if_le hx hb hd ht (fun q => by rw [← hy (pm_cz_le.mpr q)]; exact k1) (fun q => by rw [← hn (pm_bf pm_cz_le q)]; exact k1)
    · cases h
  case if_icmp cn off =>
    rcases hk with hk | hk
    · cases hk
    subst hk
    replace h : pm_j2 cn off pc st = some (pc2, st2) := h
    unfold pm_j2 at h
    split at h
    · rename_i y x r
      obtain ⟨r0, rfl, h0⟩ := pm_rs_i hs
      obtain ⟨r1, rfl, h1⟩ := pm_rs_i h0
      obtain ⟨u, ht, rfl, hy, hn⟩ := pm_jc_ok h
      have k1 := kk _ h1
      cases cn
      · exact lv_icmp_eq hx hb hd ht (fun q => by rw [← hy (pm_cz_eq.mpr q)]; exact k1) (fun q => by rw [← hn (pm_bf pm_cz_eq q)]; exact k1)
      · exact lv_icmp_ne hx hb hd ht (fun q => by rw [← hy (pm_cz_ne.mpr q)]; exact k1) (fun q => by rw [← hn (pm_bf pm_cz_ne (fun z => z q))]; exact k1)
      · exact lv_icmp_lt hx hb hd ht (fun q => by rw [← hy (pm_cz_lt.mpr q)]; exact k1) (fun q => by rw [← hn (pm_bf pm_cz_lt q)]; exact k1)
      · exact lv_icmp_ge hx hb hd ht (fun q => by rw [← hy (pm_cz_ge.mpr q)]; exact k1) (fun q => by rw [← hn (pm_bf pm_cz_ge q)]; exact k1)
      · exact lv_icmp_gt hx hb hd ht (fun q => by rw [← hy (pm_cz_gt.mpr q)]; exact k1) (fun q => by rw [← hn (pm_bf pm_cz_gt q)]; exact k1)
      · exact lv_icmp_le hx hb hd ht (fun q => by rw [← hy (pm_cz_le.mpr q)]; exact k1) (fun q => by rw [← hn (pm_bf pm_cz_le q)]; exact k1)
    · cases h
  case ifnull off =>
    rcases hk with hk | hk
    · cases hk
    subst hk
    replace h : pm_jn off pc st = some (pc2, st2) := h
    unfold pm_jn at h
    split at h
    · obtain ⟨r1, rfl, h1⟩ := pm_rs_n hs
      obtain ⟨ht, rfl⟩ := pm_jto_ok h
      exact lv_ifnullN hx hb hd ht (kk _ h1)
    · obtain ⟨a, r1, -, rfl, h1⟩ := pm_rs_r hs
      cases h
      exact lv_ifnull hx hb hd (kk _ h1)
    · cases h
  case ifnonnull off =>
    rcases hk with hk | hk
    · cases hk
    subst hk
    replace h : pm_jm off pc st = some (pc2, st2) := h
    unfold pm_jm at h
    split at h
    · obtain ⟨r1, rfl, h1⟩ := pm_rs_n hs
      cases h
      exact lv_ifnonnullN hx hb hd (kk _ h1)
    · obtain ⟨a, r1, -, rfl, h1⟩ := pm_rs_r hs
      obtain ⟨ht, rfl⟩ := pm_jto_ok h
      exact lv_ifnonnull hx hb hd ht (kk _ h1)
    · cases h
  case tableswitch d lo hi offs =>
    replace h : pm_ts d lo hi offs pc st = some (pc2, st2) := h
    unfold pm_ts at h
    split at h
    · rename_i x r
      obtain ⟨r1, rfl, h1⟩ := pm_rs_i hs
      split at h
      · rename_i hc
        obtain ⟨ht, rfl⟩ := pm_jto_ok h
        exact lv_tableOut hx hb hd hc ht (kk _ h1)
      · rename_i hc
        split at h
        · rename_i o ho
          obtain ⟨ht, rfl⟩ := pm_jto_ok h
          exact lv_tableIn hx hb hd (fun z => hc (Or.inl z)) (fun z => hc (Or.inr z)) ho ht (kk _ h1)
        · cases h
    · cases h
  case lookupswitch d ps =>
    replace h : pm_lks d ps pc st = some (pc2, st2) := h
    unfold pm_lks at h
    split at h
    · rename_i x r
      obtain ⟨r1, rfl, h1⟩ := pm_rs_i hs
      split at h
      · rename_i hc
        obtain ⟨ht, rfl⟩ := pm_jto_ok h
        exact lv_lookup hx hb hd hc rfl ht (kk _ h1)
      · cases h
    · cases h
  all_goals exact nomatch (show (none : Option (Nat × List Value)) = some (pc2, st2) from h)
end PMJMP
end
section
/-! THE PURE MACHINE, 3: cells. A pure cell is a va_E whose array class is a number of pm_ty and whose references are places. -/
def pm_ty (t : Nat) : FieldType := match t with
  | 0 => .int
  | 1 => .boolean
  | 2 => .long
  | 3 => .object "LambdaShelf$Code"
  | _ => .byte
def pm_ro (ad : List Nat) (x y : Option Nat) : Prop := match x with
  | none => y = none
  | some k => ∃ a, ad[k]? = some a ∧ y = some a
def pm_rc (bS : Nat) (ad : List Nat) (U : State) (e e' : va_E) : Prop := match e with
  | .inl (tg, n, .inl f) => ∃ cA : ClassId, e' = .inl (cA, n, .inl f) ∧ ArrOfT U cA (pm_ty tg) ∧ va_RA U cA (pm_ty tg)
  | .inl (tg, n, .inr (.inl f)) => ∃ cA : ClassId, e' = .inl (cA, n, .inr (.inl f)) ∧ ArrOfT U cA (pm_ty tg) ∧ va_RA U cA (pm_ty tg)
  | .inl (tg, n, .inr (.inr (.inr (.inr f)))) => ∃ (cA : ClassId) (g : Nat → Option Nat), e' = .inl (cA, n, .inr (.inr (.inr (.inr g)))) ∧ (∀ j, pm_ro ad (f j) (g j)) ∧ ArrOfT U cA (pm_ty tg) ∧ va_RA U cA (pm_ty tg)
  | .inr (ci, fs) => ∃ fs' : List Value, e' = .inr (ci, fs') ∧ pm_rs bS ad fs fs'
  | _ => False
def pm_rw (bS : Nat) (ad : List Nat) (U : State) (ph : List va_E) (ws : va_W) : Prop := ws.map (fun q => q.1) = ad ∧ ph.length = ws.length ∧ ∀ (k : Nat) (e : va_E), ph[k]? = some e → ∃ (a : Nat) (e' : va_E), ws[k]? = some (a, e') ∧ pm_rc bS ad U e e'
theorem pm_ro.mono {ad ad2 : List Nat} {x y : Option Nat} (h : pm_ro ad x y) : pm_ro (ad ++ ad2) x y := by
  cases x with
  | none => exact h
  | some k => obtain ⟨a, h1, h2⟩ := h; exact ⟨a, pm_at_app h1, h2⟩
theorem pm_rc.mono {bS : Nat} {ad ad2 : List Nat} {U : State} {e e' : va_E} (h : pm_rc bS ad U e e') : pm_rc bS (ad ++ ad2) U e e' := by
  unfold pm_rc at h ⊢
  split at h
  · exact h
  · exact h
  · obtain ⟨cA, g, h1, h2, h3⟩ := h
    exact ⟨cA, g, h1, fun j => (h2 j).mono, h3⟩
  · obtain ⟨fs', h1, h2⟩ := h
    exact ⟨fs', h1, h2.mono⟩
  · exact h.elim
theorem pm_rc.moved {bS : Nat} {ad : List Nat} {u U : State} {e e' : va_E} (hvm : u.vm.Alike U.vm) (h : pm_rc bS ad u e e') : pm_rc bS ad U e e' := by
  unfold pm_rc at h ⊢
  split at h
  · obtain ⟨cA, h1, h2, h3⟩ := h
    exact ⟨cA, h1, arrOfT_moved hvm h2, h3.moved hvm⟩
  · obtain ⟨cA, h1, h2, h3⟩ := h
    exact ⟨cA, h1, arrOfT_moved hvm h2, h3.moved hvm⟩
  · obtain ⟨cA, g, h1, h4, h2, h3⟩ := h
    exact ⟨cA, g, h1, h4, arrOfT_moved hvm h2, h3.moved hvm⟩
  · exact h
  · exact h.elim
theorem pm_rw.moved {bS : Nat} {ad : List Nat} {u U : State} {ph : List va_E} {ws : va_W} (hvm : u.vm.Alike U.vm) (h : pm_rw bS ad u ph ws) : pm_rw bS ad U ph ws :=
  ⟨h.1, h.2.1, fun k e hk => by obtain ⟨a, e', h1, h2⟩ := h.2.2 k e hk; exact ⟨a, e', h1, h2.moved hvm⟩⟩
theorem pm_rw.at {bS : Nat} {ad : List Nat} {U : State} {ph : List va_E} {ws : va_W} (h : pm_rw bS ad U ph ws) {k a : Nat} {e : va_E} (hk : ph[k]? = some e) (ha : ad[k]? = some a) : ∃ e' : va_E, ws[k]? = some (a, e') ∧ pm_rc bS ad U e e' := by
  obtain ⟨a', e', h1, h2⟩ := h.2.2 k e hk
  rw [← h.1, List.getElem?_map, h1] at ha
  cases ha
  exact ⟨e', h1, h2⟩
theorem pm_rw.set {bS : Nat} {ad : List Nat} {U : State} {ph : List va_E} {ws : va_W} (h : pm_rw bS ad U ph ws) {k a : Nat} {e e0 e' : va_E} (hk : ws[k]? = some (a, e0)) (hc : pm_rc bS ad U e e') : pm_rw bS ad U (ph.set k e) (ws.set k (a, e')) := by
  refine ⟨?_, by simp [h.2.1], fun j x hj => ?_⟩
  · rw [List.map_set, h.1]
    apply List.ext_getElem?
    intro n
    rw [List.getElem?_set]
    split
    · rename_i hn
      subst hn
      have h1 : ad[k]? = some a := by rw [← h.1, List.getElem?_map, hk]; rfl
      rw [h1]
      simp [(List.getElem?_eq_some_iff.mp h1).1]
    · rfl
  · rw [List.getElem?_set] at hj
    split at hj
    · rename_i hn
      subst hn
      split at hj
      · cases hj
        exact ⟨a, e', by rw [List.getElem?_set]; simp [(List.getElem?_eq_some_iff.mp hk).1], hc⟩
      · cases hj
    · rename_i hn
      obtain ⟨a1, e1, h1, h2⟩ := h.2.2 j x hj
      exact ⟨a1, e1, by rw [List.getElem?_set, if_neg hn]; exact h1, h2⟩
theorem pm_rw.push {bS : Nat} {ad : List Nat} {U : State} {ph : List va_E} {ws : va_W} (h : pm_rw bS ad U ph ws) {q : Nat} {e e' : va_E} (hc : pm_rc bS (ad ++ [q]) U e e') : pm_rw bS (ad ++ [q]) U (ph ++ [e]) (ws ++ [(q, e')]) := by
  refine ⟨by simp [h.1], by simp [h.2.1], fun j x hj => ?_⟩
  rcases Nat.lt_or_ge j ph.length with hl | hl
  · rw [List.getElem?_append_left hl] at hj
    obtain ⟨a1, e1, h1, h2⟩ := h.2.2 j x hj
    exact ⟨a1, e1, by rw [List.getElem?_append_left (by rw [← h.2.1]; exact hl)]; exact h1, h2.mono⟩
  · rw [List.getElem?_append_right hl] at hj
    have hj0 : j = ph.length := by
      have := (List.getElem?_eq_some_iff.mp hj).1
      simp at this
      omega
    subst hj0
    rw [Nat.sub_self] at hj
    cases hj
    refine ⟨q, e', ?_, hc⟩
    rw [h.2.1, List.getElem?_append_right (Nat.le_refl _), Nat.sub_self]
    rfl
theorem pm_rw.new {bS : Nat} {ad : List Nat} {U : State} {ph : List va_E} {ws : va_W} (h : pm_rw bS ad U ph ws) (q : Nat) : (ad ++ [q])[ph.length]? = some q := by
  have hl : ad.length = ph.length := by rw [← h.1, List.length_map, h.2.1]
  rw [← hl, List.getElem?_append_right (Nat.le_refl _), Nat.sub_self]
  rfl
theorem pm_K1 {D : va_G} {cl : List vw_C} {U : State} {tys : List (ClassId × FieldType)} {cA : ClassId} {ty : FieldType} (h : va_K D cl tys U) (h1 : ArrOfT U cA ty) (h2 : va_RA U cA ty) : va_K D cl [(cA, ty)] U :=
  ⟨h.1, fun k q hk => by
    match k, hk with
    | 0, hk => cases hk; exact ⟨h1, h2⟩
    | k + 1, hk => simp at hk⟩
theorem pm_K2 {D : va_G} {cl : List vw_C} {U : State} {tys : List (ClassId × FieldType)} {cA cB : ClassId} {ty tb : FieldType} (h : va_K D cl tys U) (h1 : ArrOfT U cA ty) (h2 : va_RA U cA ty) (h3 : ArrOfT U cB tb) (h4 : va_RA U cB tb) : va_K D cl [(cA, ty), (cB, tb)] U :=
  ⟨h.1, fun k q hk => by
    match k, hk with
    | 0, hk => cases hk; exact ⟨h1, h2⟩
    | 1, hk => cases hk; exact ⟨h3, h4⟩
    | k + 2, hk => simp at hk⟩
def pm_vo (x : Option Nat) : Value := match x with
  | none => .null
  | some k => .ref k
/-- may a field of this type hold it: with no test of an int that is a variable -/
def pm_fit (ty : FieldType) (v : Value) : Bool := match ty, v with
  | .int, .int _ => true
  | .boolean, .int x => x == 0 || x == 1
  | .long, .long _ => true
  | .object _, .null => true
  | .object _, .ref _ => true
  | .array _, .null => true
  | .array _, .ref _ => true
  | _, _ => false
theorem pm_fit_ok {bS : Nat} {ad : List Nat} {ty : FieldType} {v w : Value} (h : pm_fit ty v = true) (hv : pm_rv bS ad v w) : narrow ty w = w ∧ fits ty w = true := by
  unfold pm_fit at h
  split at h
  · obtain rfl : w = _ := hv; exact ⟨rfl, rfl⟩
  · rename_i x
    obtain rfl : w = _ := hv
    rcases (by simpa using h : x = 0 ∨ x = 1) with rfl | rfl
    · exact ⟨by decide, by decide⟩
    · exact ⟨by decide, by decide⟩
  · obtain rfl : w = _ := hv; exact ⟨rfl, rfl⟩
  · obtain rfl : w = _ := hv; exact ⟨rfl, rfl⟩
  · obtain ⟨a, -, rfl⟩ := hv; exact ⟨rfl, rfl⟩
  · obtain rfl : w = _ := hv; exact ⟨rfl, rfl⟩
  · obtain ⟨a, -, rfl⟩ := hv; exact ⟨rfl, rfl⟩
  · cases h
theorem pm_rs_get {bS : Nat} {ad : List Nat} {v : Value} : ∀ {a a' : List Value} {k : Nat}, pm_rs bS ad a a' → a[k]? = some v → ∃ w, a'[k]? = some w ∧ pm_rv bS ad v w
  | [], [], _, _, h => by simp at h
  | v0 :: r, w0 :: r', 0, hr, h => by simp at h; subst h; exact ⟨w0, rfl, hr.1⟩
  | v0 :: r, w0 :: r', k + 1, hr, h => by
    obtain ⟨w, h1, h2⟩ := pm_rs_get hr.2 (by simpa using h)
    exact ⟨w, by simpa using h1, h2⟩
  | [], _ :: _, _, h, _ => h.elim
  | _ :: _, [], _, h, _ => h.elim
theorem pm_rs_set {bS : Nat} {ad : List Nat} {v w : Value} (hv : pm_rv bS ad v w) : ∀ {a a' : List Value} {k : Nat}, pm_rs bS ad a a' → pm_rs bS ad (a.set k v) (a'.set k w)
  | [], [], _, _ => trivial
  | v0 :: r, w0 :: r', 0, hr => ⟨hv, hr.2⟩
  | v0 :: r, w0 :: r', k + 1, hr => ⟨hr.1, pm_rs_set hv hr.2⟩
  | [], _ :: _, _, h => h.elim
  | _ :: _, [], _, h => h.elim
end
section
/-! THE TABLES: by program, out of the claim's own Statement. Pool numbers and code names stand here alone. -/
abbrev pm_M : Type := MethodName × ByteArray × Nat × Option FieldType × Nat × Nat × Bool × Nat × List (Nat × Instr × Nat)
abbrev pm_nm (T : pm_M) : MethodName := T.1
abbrev pm_by (T : pm_M) : ByteArray := T.2.1
abbrev pm_ml (T : pm_M) : Nat := T.2.2.1
abbrev pm_re (T : pm_M) : Option FieldType := T.2.2.2.1
abbrev pm_na (T : pm_M) : Nat := T.2.2.2.2.1
abbrev pm_cn (T : pm_M) : Nat := T.2.2.2.2.2.1
abbrev pm_ini (T : pm_M) : Bool := T.2.2.2.2.2.2.1
abbrev pm_ps (T : pm_M) : Nat := T.2.2.2.2.2.2.2.1
abbrev pm_cd (T : pm_M) : List (Nat × Instr × Nat) := T.2.2.2.2.2.2.2.2
def pm_as {α : Type} (l : List (Nat × α)) (i : Nat) : Option α := match l with
  | [] => none
  | q :: r => if q.1 = i then some q.2 else pm_as r i
theorem pm_as_mem {α : Type} {i : Nat} {v : α} : ∀ {l : List (Nat × α)}, pm_as l i = some v → (i, v) ∈ l
  | [], h => by cases h
  | q :: r, h => by
    unfold pm_as at h
    split at h
    · rename_i hq
      cases h
      rw [← hq]
      exact List.mem_cons_self
    · exact List.mem_cons_of_mem _ (pm_as_mem h)
theorem pm_getD_mem {α : Type} {l : List α} {d a : α} {k : Nat} (h : l.getD k d = a) : a = d ∨ a ∈ l := by
  rw [List.getD_eq_getElem?_getD] at h
  cases hk : l[k]? with
  | none => rw [hk] at h; exact Or.inl h.symm
  | some b => rw [hk] at h; exact Or.inr (by rw [← h]; exact List.mem_of_getElem? hk)
def pm_F0 : u_T := fun k => match k with
  | 0 => ("LambdaShelf$Abstracter", "shape", "LLambdaShelf$Shape;", true)
  | 1 => ("LambdaShelf$Abstracter", "held", "[I", true)
  | 2 => ("LambdaShelf$Abstracter", "met", "[I", true)
  | 3 => ("LambdaShelf$Abstracter", "body", "LLambdaShelf$Code;", true)
  | 4 => ("LambdaShelf$Abstracter", "made", "LLambdaShelf$Code;", true)
  | _ => ("LambdaShelf$Abstracter", "front", "I", false)
def pm_F1 : u_T := fun k => match k with
  | 0 => ("LambdaShelf$Code", "cells", "[I", true)
  | 1 => ("LambdaShelf$Code", "length", "I", false)
  | _ => ("LambdaShelf$Code", "over", "Z", false)
def pm_F2 : u_T := fun k => match k with
  | 0 => ("LambdaShelf$Reader", "items", "[I", true)
  | 1 => ("LambdaShelf$Reader", "openNames", "[I", true)
  | 2 => ("LambdaShelf$Reader", "rowsAround", "[I", true)
  | 3 => ("LambdaShelf$Reader", "tape", "LLambdaShelf$Tape;", true)
  | 4 => ("LambdaShelf$Reader", "itemCount", "I", false)
  | 5 => ("LambdaShelf$Reader", "row", "I", false)
  | 6 => ("LambdaShelf$Reader", "open", "I", false)
  | 7 => ("LambdaShelf$Reader", "inHead", "I", false)
  | 8 => ("LambdaShelf$Reader", "kind", "I", false)
  | 9 => ("LambdaShelf$Reader", "start", "I", false)
  | 10 => ("LambdaShelf$Reader", "next", "I", false)
  | 11 => ("LambdaShelf$Reader", "fault", "I", false)
  | _ => ("LambdaShelf$Reader", "faultPlace", "I", false)
def pm_F3 : u_T := fun k => match k with
  | 0 => ("LambdaShelf$Shape", "ends", "[I", true)
  | _ => ("LambdaShelf$Shape", "depths", "[I", true)
def pm_F4 : u_T := fun k => match k with
  | 0 => ("LambdaShelf$Tape", "bytes", "[I", true)
  | _ => ("LambdaShelf$Tape", "length", "I", false)
def pm_F5 : u_T := fun k => match k with
  | 0 => ("LambdaShelf$Teller", "around", "[I", true)
  | 1 => ("LambdaShelf$Teller", "aroundCount", "I", false)
  | 2 => ("LambdaShelf$Teller", "depth", "I", false)
  | 3 => ("LambdaShelf$Teller", "wanted", "I", false)
  | 4 => ("LambdaShelf$Teller", "told", "I", false)
  | _ => ("LambdaShelf$Teller", "found", "I", false)
def pm_F6 : u_T := fun k => match k with
  | 0 => ("LambdaShelf$Turner", "shape", "LLambdaShelf$Shape;", true)
  | _ => ("LambdaShelf$Turner", "made", "LLambdaShelf$Code;", true)
def pm_F7 : u_T := fun k => match k with
  | 0 => ("LambdaShelf$Typer", "shape", "LLambdaShelf$Shape;", true)
  | 1 => ("LambdaShelf$Typer", "froms", "[I", true)
  | 2 => ("LambdaShelf$Typer", "tos", "[I", true)
  | 3 => ("LambdaShelf$Typer", "links", "[I", true)
  | 4 => ("LambdaShelf$Typer", "queue", "[I", true)
  | 5 => ("LambdaShelf$Typer", "marks", "[I", true)
  | 6 => ("LambdaShelf$Typer", "binders", "[I", true)
  | 7 => ("LambdaShelf$Typer", "waiting", "[I", true)
  | 8 => ("LambdaShelf$Typer", "made", "LLambdaShelf$Code;", true)
  | 9 => ("LambdaShelf$Typer", "latest", "LLambdaShelf$Code;", true)
  | 10 => ("LambdaShelf$Typer", "nodes", "I", false)
  | 11 => ("LambdaShelf$Typer", "waitingCount", "I", false)
  | _ => ("LambdaShelf$Typer", "shared", "I", false)
def pm_F8 : u_T := fun k => match k with
  | 0 => ("LambdaShelf", "tape", "LLambdaShelf$Tape;", true)
  | 1 => ("LambdaShelf", "terms", "[LLambdaShelf$Code;", true)
  | 2 => ("LambdaShelf", "trial", "LLambdaShelf$Code;", true)
  | 3 => ("LambdaShelf", "shape", "LLambdaShelf$Shape;", true)
  | 4 => ("LambdaShelf", "reader", "LLambdaShelf$Reader;", true)
  | 5 => ("LambdaShelf", "teller", "LLambdaShelf$Teller;", true)
  | 6 => ("LambdaShelf", "turner", "LLambdaShelf$Turner;", true)
  | 7 => ("LambdaShelf", "abstracter", "LLambdaShelf$Abstracter;", false)
  | 8 => ("LambdaShelf", "typer", "LLambdaShelf$Typer;", false)
  | 9 => ("LambdaShelf", "many", "I", false)
  | 10 => ("LambdaShelf", "latestFault", "I", false)
  | 11 => ("LambdaShelf", "latestEnding", "I", false)
  | _ => ("LambdaShelf", "latestGreatest", "I", false)
def pm_F9 : u_T := fun k => match k with
  | 0 => ("LambdaShelfModel", "terms", "I", false)
  | 1 => ("LambdaShelfModel", "sizes", "[I", true)
  | 2 => ("LambdaShelfModel", "codes", "[I", true)
  | 3 => ("LambdaShelfModel", "tape", "[I", true)
  | 4 => ("LambdaShelfModel", "taped", "I", false)
  | 5 => ("LambdaShelfModel", "row", "[I", true)
  | 6 => ("LambdaShelfModel", "size", "I", false)
  | 7 => ("LambdaShelfModel", "depth", "[I", true)
  | 8 => ("LambdaShelfModel", "pending", "[I", true)
  | 9 => ("LambdaShelfModel", "at", "I", false)
  | 10 => ("LambdaShelfModel", "from", "I", false)
  | 11 => ("LambdaShelfModel", "sort", "I", false)
  | 12 => ("LambdaShelfModel", "value", "J", false)
  | 13 => ("LambdaShelfModel", "fault", "I", false)
  | 14 => ("LambdaShelfModel", "wrongAt", "I", false)
  | 15 => ("LambdaShelfModel", "begins", "[I", true)
  | 16 => ("LambdaShelfModel", "hasPart", "[Z", true)
  | 17 => ("LambdaShelfModel", "binds", "[I", true)
  | 18 => ("LambdaShelfModel", "levels", "I", false)
  | 19 => ("LambdaShelfModel", "names", "[J", true)
  | 20 => ("LambdaShelfModel", "nameMany", "I", false)
  | 21 => ("LambdaShelfModel", "opens", "I", false)
  | 22 => ("LambdaShelfModel", "text", "[I", true)
  | 23 => ("LambdaShelfModel", "textMany", "I", false)
  | 24 => ("LambdaShelfModel", "blank", "[Z", true)
  | 25 => ("LambdaShelfModel", "opened", "[Z", true)
  | 26 => ("LambdaShelfModel", "closed", "[I", true)
  | 27 => ("LambdaShelfModel", "fresh", "[I", true)
  | 28 => ("LambdaShelfModel", "freshMany", "I", false)
  | 29 => ("LambdaShelfModel", "inner", "[I", true)
  | 30 => ("LambdaShelfModel", "how", "I", false)
  | 31 => ("LambdaShelfModel", "greatest", "I", false)
  | 32 => ("LambdaShelfModel", "kinds", "I", false)
  | 33 => ("LambdaShelfModel", "became", "[I", true)
  | 34 => ("LambdaShelfModel", "left", "[I", true)
  | 35 => ("LambdaShelfModel", "right", "[I", true)
  | 36 => ("LambdaShelfModel", "firsts", "[I", true)
  | 37 => ("LambdaShelfModel", "seconds", "[I", true)
  | 38 => ("LambdaShelfModel", "mark", "[I", true)
  | 39 => ("LambdaShelfModel", "path", "[I", true)
  | 40 => ("LambdaShelfModel", "binder", "[I", true)
  | 41 => ("LambdaShelfModel", "lambdaType", "[I", true)
  | 42 => ("LambdaShelfModel", "lambdaAt", "[I", true)
  | 43 => ("LambdaShelfModel", "pile", "[I", true)
  | 44 => ("LambdaShelfModel", "type", "[I", true)
  | 45 => ("LambdaShelfModel", "typeMany", "I", false)
  | 46 => ("LambdaShelfModel", "drafted", "[I", true)
  | 47 => ("LambdaShelfModel", "numbered", "[I", true)
  | _ => ("LambdaShelfModel", "waiting", "[I", true)
abbrev pm_cl : List vw_C := [("LambdaShelf$Abstracter", pm_F0, 6), ("LambdaShelf$Code", pm_F1, 3), ("LambdaShelf$Reader", pm_F2, 13), ("LambdaShelf$Shape", pm_F3, 2), ("LambdaShelf$Tape", pm_F4, 2), ("LambdaShelf$Teller", pm_F5, 6), ("LambdaShelf$Turner", pm_F6, 2), ("LambdaShelf$Typer", pm_F7, 13), ("LambdaShelf", pm_F8, 13), ("LambdaShelfModel", pm_F9, 49)]
def pm_fts : List (List FieldType) := [[.object "LambdaShelf$Shape", .array .int, .array .int, .object "LambdaShelf$Code", .object "LambdaShelf$Code", .int], [.array .int, .int, .boolean], [.array .int, .array .int, .array .int, .object "LambdaShelf$Tape", .int, .int, .int, .int, .int, .int, .int, .int, .int], [.array .int, .array .int], [.array .int, .int], [.array .int, .int, .int, .int, .int, .int], [.object "LambdaShelf$Shape", .object "LambdaShelf$Code"], [.object "LambdaShelf$Shape", .array .int, .array .int, .array .int, .array .int, .array .int, .array .int, .array .int, .object "LambdaShelf$Code", .object "LambdaShelf$Code", .int, .int, .int], [.object "LambdaShelf$Tape", .array (.object "LambdaShelf$Code"), .object "LambdaShelf$Code", .object "LambdaShelf$Shape", .object "LambdaShelf$Reader", .object "LambdaShelf$Teller", .object "LambdaShelf$Turner", .object "LambdaShelf$Abstracter", .object "LambdaShelf$Typer", .int, .int, .int, .int], [.int, .array .int, .array .int, .array .int, .int, .array .int, .int, .array .int, .array .int, .int, .int, .int, .long, .int, .int, .array .int, .array .boolean, .array .int, .int, .array .long, .int, .int, .array .int, .int, .array .boolean, .array .boolean, .array .int, .array .int, .int, .array .int, .int, .int, .int, .array .int, .array .int, .array .int, .array .int, .array .int, .array .int, .array .int, .array .int, .array .int, .array .int, .array .int, .array .int, .int, .array .int, .array .int, .array .int]]
def pm_dfs : List (List Value) := [[.null, .null, .null, .null, .null, .int 0], [.null, .int 0, .int 0], [.null, .null, .null, .null, .int 0, .int 0, .int 0, .int 0, .int 0, .int 0, .int 0, .int 0, .int 0], [.null, .null], [.null, .int 0], [.null, .int 0, .int 0, .int 0, .int 0, .int 0], [.null, .null], [.null, .null, .null, .null, .null, .null, .null, .null, .null, .null, .int 0, .int 0, .int 0], [.null, .null, .null, .null, .null, .null, .null, .null, .null, .int 0, .int 0, .int 0, .int 0], [.int 0, .null, .null, .null, .int 0, .null, .int 0, .null, .null, .int 0, .int 0, .int 0, .long 0, .int 0, .int 0, .null, .null, .null, .int 0, .null, .int 0, .int 0, .null, .int 0, .null, .null, .null, .null, .int 0, .null, .int 0, .int 0, .int 0, .null, .null, .null, .null, .null, .null, .null, .null, .null, .null, .null, .null, .int 0, .null, .null, .null]]
def pm_fty (ci k : Nat) : FieldType := (pm_fts.getD ci []).getD k .byte
def pm_cC : Nat := 1
def pm_cc0 : List (Nat × Instr × Nat) := [(0, .new 7, 3), (3, .dup, 1), (4, .invokespecial 9, 3), (7, .astore_n 1, 1), (8, .new 10, 3), (11, .dup, 1), (12, .invokespecial 12, 3), (15, .astore_n 2, 1), (16, .iconst 0, 1), (17, .istore_n 3, 1), (18, .iload_n 3, 1), (19, .aload_n 0, 1), (20, .arraylength, 1), (21, .bipush 6, 2), (23, .isub, 1), (24, .if_icmp .gt 761, 3), (27, .aload_n 0, 1), (28, .iload_n 3, 1), (29, .iaload, 1), (30, .bipush 31, 2), (32, .iand, 1), (33, .tableswitch 746 0 22 #[107, 170, 193, 206, 219, 242, 275, 308, 341, 364, 397, 430, 473, 496, 529, 552, 575, 598, 631, 654, 677, 710, 723], 107), (140, .aload_n 1, 1), (141, .aload_n 0, 1), (142, .iload_n 3, 1), (143, .iconst 1, 1), (144, .iadd, 1), (145, .iaload, 1), (146, .aload_n 0, 1), (147, .iload_n 3, 1), (148, .iconst 2, 1), (149, .iadd, 1), (150, .iaload, 1), (151, .aload_n 0, 1), (152, .iload_n 3, 1), (153, .iconst 3, 1), (154, .iadd, 1), (155, .iaload, 1), (156, .aload_n 0, 1), (157, .iload_n 3, 1), (158, .iconst 4, 1), (159, .iadd, 1), (160, .iaload, 1), (161, .aload_n 0, 1), (162, .iload_n 3, 1), (163, .iconst 5, 1), (164, .iadd, 1), (165, .iaload, 1), (166, .invokevirtual 13, 3), (169, .aload_n 2, 1), (170, .aload_n 0, 1), (171, .iload_n 3, 1), (172, .iconst 1, 1), (173, .iadd, 1), (174, .iaload, 1), (175, .aload_n 0, 1), (176, .iload_n 3, 1), (177, .iconst 2, 1), (178, .iadd, 1), (179, .iaload, 1), (180, .aload_n 0, 1), (181, .iload_n 3, 1), (182, .iconst 3, 1), (183, .iadd, 1), (184, .iaload, 1), (185, .aload_n 0, 1), (186, .iload_n 3, 1), (187, .iconst 4, 1), (188, .iadd, 1), (189, .iaload, 1), (190, .aload_n 0, 1), (191, .iload_n 3, 1), (192, .iconst 5, 1), (193, .iadd, 1), (194, .iaload, 1), (195, .invokevirtual 17, 3), (198, .if_icmp .eq 581, 3), (201, .iconst 0, 1), (202, .ireturn, 1), (203, .aload_n 1, 1), (204, .aload_n 0, 1), (205, .iload_n 3, 1), (206, .iconst 1, 1), (207, .iadd, 1), (208, .iaload, 1), (209, .invokevirtual 18, 3), (212, .aload_n 2, 1), (213, .aload_n 0, 1), (214, .iload_n 3, 1), (215, .iconst 1, 1), (216, .iadd, 1), (217, .iaload, 1), (218, .invokevirtual 22, 3), (221, .if_icmp .eq 558, 3), (224, .iconst 0, 1), (225, .ireturn, 1), (226, .aload_n 1, 1), (227, .invokevirtual 23, 3), (230, .aload_n 2, 1), (231, .invokevirtual 27, 3), (234, .if_icmp .eq 545, 3), (237, .iconst 0, 1), (238, .ireturn, 1), (239, .aload_n 1, 1), (240, .invokevirtual 28, 3), (243, .aload_n 2, 1), (244, .invokevirtual 31, 3), (247, .if_icmp .eq 532, 3), (250, .iconst 0, 1), (251, .ireturn, 1), (252, .aload_n 1, 1), (253, .aload_n 0, 1), (254, .iload_n 3, 1), (255, .iconst 1, 1), (256, .iadd, 1), (257, .iaload, 1), (258, .invokevirtual 32, 3), (261, .aload_n 2, 1), (262, .aload_n 0, 1), (263, .iload_n 3, 1), (264, .iconst 1, 1), (265, .iadd, 1), (266, .iaload, 1), (267, .invokevirtual 35, 3), (270, .if_icmp .eq 509, 3), (273, .iconst 0, 1), (274, .ireturn, 1), (275, .aload_n 1, 1), (276, .aload_n 0, 1), (277, .iload_n 3, 1), (278, .iconst 1, 1), (279, .iadd, 1), (280, .iaload, 1), (281, .aload_n 0, 1), (282, .iload_n 3, 1), (283, .iconst 2, 1), (284, .iadd, 1), (285, .iaload, 1), (286, .invokevirtual 36, 3), (289, .aload_n 2, 1), (290, .aload_n 0, 1), (291, .iload_n 3, 1), (292, .iconst 1, 1), (293, .iadd, 1), (294, .iaload, 1), (295, .aload_n 0, 1), (296, .iload_n 3, 1), (297, .iconst 2, 1), (298, .iadd, 1), (299, .iaload, 1), (300, .invokevirtual 40, 3), (303, .if_icmp .eq 476, 3), (306, .iconst 0, 1), (307, .ireturn, 1), (308, .aload_n 1, 1), (309, .aload_n 0, 1), (310, .iload_n 3, 1), (311, .iconst 1, 1), (312, .iadd, 1), (313, .iaload, 1), (314, .aload_n 0, 1), (315, .iload_n 3, 1), (316, .iconst 2, 1), (317, .iadd, 1), (318, .iaload, 1), (319, .invokevirtual 41, 3), (322, .aload_n 2, 1), (323, .aload_n 0, 1), (324, .iload_n 3, 1), (325, .iconst 1, 1), (326, .iadd, 1), (327, .iaload, 1), (328, .aload_n 0, 1), (329, .iload_n 3, 1), (330, .iconst 2, 1), (331, .iadd, 1), (332, .iaload, 1), (333, .invokevirtual 44, 3), (336, .if_icmp .eq 443, 3), (339, .iconst 0, 1), (340, .ireturn, 1), (341, .aload_n 1, 1), (342, .aload_n 0, 1), (343, .iload_n 3, 1), (344, .iconst 1, 1), (345, .iadd, 1), (346, .iaload, 1), (347, .aload_n 0, 1), (348, .iload_n 3, 1), (349, .iconst 2, 1), (350, .iadd, 1), (351, .iaload, 1), (352, .invokevirtual 45, 3), (355, .aload_n 2, 1), (356, .aload_n 0, 1), (357, .iload_n 3, 1), (358, .iconst 1, 1), (359, .iadd, 1), (360, .iaload, 1), (361, .aload_n 0, 1), (362, .iload_n 3, 1), (363, .iconst 2, 1), (364, .iadd, 1), (365, .iaload, 1), (366, .invokevirtual 48, 3), (369, .if_icmp .eq 410, 3), (372, .iconst 0, 1), (373, .ireturn, 1), (374, .aload_n 1, 1), (375, .aload_n 0, 1), (376, .iload_n 3, 1), (377, .iconst 1, 1), (378, .iadd, 1), (379, .iaload, 1), (380, .invokevirtual 49, 3), (383, .aload_n 2, 1), (384, .aload_n 0, 1), (385, .iload_n 3, 1), (386, .iconst 1, 1), (387, .iadd, 1), (388, .iaload, 1), (389, .invokevirtual 52, 3), (392, .if_icmp .eq 387, 3), (395, .iconst 0, 1), (396, .ireturn, 1), (397, .aload_n 1, 1), (398, .aload_n 0, 1), (399, .iload_n 3, 1), (400, .iconst 1, 1), (401, .iadd, 1), (402, .iaload, 1), (403, .aload_n 0, 1), (404, .iload_n 3, 1), (405, .iconst 2, 1), (406, .iadd, 1), (407, .iaload, 1), (408, .invokevirtual 53, 3), (411, .aload_n 2, 1), (412, .aload_n 0, 1), (413, .iload_n 3, 1), (414, .iconst 1, 1), (415, .iadd, 1), (416, .iaload, 1), (417, .aload_n 0, 1), (418, .iload_n 3, 1), (419, .iconst 2, 1), (420, .iadd, 1), (421, .iaload, 1), (422, .invokevirtual 56, 3), (425, .if_icmp .eq 354, 3), (428, .iconst 0, 1), (429, .ireturn, 1), (430, .aload_n 1, 1), (431, .aload_n 0, 1), (432, .iload_n 3, 1), (433, .iconst 1, 1), (434, .iadd, 1), (435, .iaload, 1), (436, .aload_n 0, 1), (437, .iload_n 3, 1), (438, .iconst 2, 1), (439, .iadd, 1), (440, .iaload, 1), (441, .invokevirtual 57, 3), (444, .aload_n 2, 1), (445, .aload_n 0, 1), (446, .iload_n 3, 1), (447, .iconst 1, 1), (448, .iadd, 1), (449, .iaload, 1), (450, .aload_n 0, 1), (451, .iload_n 3, 1), (452, .iconst 2, 1), (453, .iadd, 1), (454, .iaload, 1), (455, .invokevirtual 60, 3), (458, .if_icmp .eq 321, 3), (461, .iconst 0, 1), (462, .ireturn, 1), (463, .aload_n 1, 1), (464, .aload_n 0, 1), (465, .iload_n 3, 1), (466, .iconst 1, 1), (467, .iadd, 1), (468, .iaload, 1), (469, .aload_n 0, 1), (470, .iload_n 3, 1), (471, .iconst 2, 1), (472, .iadd, 1), (473, .iaload, 1), (474, .aload_n 0, 1), (475, .iload_n 3, 1), (476, .iconst 3, 1), (477, .iadd, 1), (478, .iaload, 1), (479, .invokevirtual 61, 3), (482, .aload_n 2, 1), (483, .aload_n 0, 1), (484, .iload_n 3, 1), (485, .iconst 1, 1), (486, .iadd, 1), (487, .iaload, 1), (488, .aload_n 0, 1), (489, .iload_n 3, 1), (490, .iconst 2, 1), (491, .iadd, 1), (492, .iaload, 1), (493, .aload_n 0, 1), (494, .iload_n 3, 1), (495, .iconst 3, 1), (496, .iadd, 1), (497, .iaload, 1), (498, .invokevirtual 65, 3), (501, .if_icmp .eq 278, 3), (504, .iconst 0, 1), (505, .ireturn, 1), (506, .aload_n 1, 1), (507, .aload_n 0, 1), (508, .iload_n 3, 1), (509, .iconst 1, 1), (510, .iadd, 1), (511, .iaload, 1), (512, .invokevirtual 66, 3), (515, .aload_n 2, 1), (516, .aload_n 0, 1), (517, .iload_n 3, 1), (518, .iconst 1, 1), (519, .iadd, 1), (520, .iaload, 1), (521, .invokevirtual 69, 3), (524, .if_icmp .eq 255, 3), (527, .iconst 0, 1), (528, .ireturn, 1), (529, .aload_n 1, 1), (530, .aload_n 0, 1), (531, .iload_n 3, 1), (532, .iconst 1, 1), (533, .iadd, 1), (534, .iaload, 1), (535, .aload_n 0, 1), (536, .iload_n 3, 1), (537, .iconst 2, 1), (538, .iadd, 1), (539, .iaload, 1), (540, .invokevirtual 70, 3), (543, .aload_n 2, 1), (544, .aload_n 0, 1), (545, .iload_n 3, 1), (546, .iconst 1, 1), (547, .iadd, 1), (548, .iaload, 1), (549, .aload_n 0, 1), (550, .iload_n 3, 1), (551, .iconst 2, 1), (552, .iadd, 1), (553, .iaload, 1), (554, .invokevirtual 73, 3), (557, .if_icmp .eq 222, 3), (560, .iconst 0, 1), (561, .ireturn, 1), (562, .aload_n 1, 1), (563, .aload_n 0, 1), (564, .iload_n 3, 1), (565, .iconst 1, 1), (566, .iadd, 1), (567, .iaload, 1), (568, .invokevirtual 74, 3), (571, .aload_n 2, 1), (572, .aload_n 0, 1), (573, .iload_n 3, 1), (574, .iconst 1, 1), (575, .iadd, 1), (576, .iaload, 1), (577, .invokevirtual 77, 3), (580, .if_icmp .eq 199, 3), (583, .iconst 0, 1), (584, .ireturn, 1), (585, .aload_n 1, 1), (586, .aload_n 0, 1), (587, .iload_n 3, 1), (588, .iconst 1, 1), (589, .iadd, 1), (590, .iaload, 1), (591, .invokevirtual 78, 3), (594, .aload_n 2, 1), (595, .aload_n 0, 1), (596, .iload_n 3, 1), (597, .iconst 1, 1), (598, .iadd, 1), (599, .iaload, 1), (600, .invokevirtual 81, 3), (603, .if_icmp .eq 176, 3), (606, .iconst 0, 1), (607, .ireturn, 1), (608, .aload_n 1, 1), (609, .aload_n 0, 1), (610, .iload_n 3, 1), (611, .iconst 1, 1), (612, .iadd, 1), (613, .iaload, 1), (614, .invokevirtual 82, 3), (617, .aload_n 2, 1), (618, .aload_n 0, 1), (619, .iload_n 3, 1), (620, .iconst 1, 1), (621, .iadd, 1), (622, .iaload, 1), (623, .invokevirtual 85, 3), (626, .if_icmp .eq 153, 3), (629, .iconst 0, 1), (630, .ireturn, 1), (631, .aload_n 1, 1), (632, .aload_n 0, 1), (633, .iload_n 3, 1), (634, .iconst 1, 1), (635, .iadd, 1), (636, .iaload, 1), (637, .aload_n 0, 1), (638, .iload_n 3, 1), (639, .iconst 2, 1), (640, .iadd, 1), (641, .iaload, 1), (642, .invokevirtual 86, 3), (645, .aload_n 2, 1), (646, .aload_n 0, 1), (647, .iload_n 3, 1), (648, .iconst 1, 1), (649, .iadd, 1), (650, .iaload, 1), (651, .aload_n 0, 1), (652, .iload_n 3, 1), (653, .iconst 2, 1), (654, .iadd, 1), (655, .iaload, 1), (656, .invokevirtual 89, 3), (659, .if_icmp .eq 120, 3), (662, .iconst 0, 1), (663, .ireturn, 1), (664, .aload_n 1, 1), (665, .aload_n 0, 1), (666, .iload_n 3, 1), (667, .iconst 1, 1), (668, .iadd, 1), (669, .iaload, 1), (670, .invokevirtual 90, 3), (673, .aload_n 2, 1), (674, .aload_n 0, 1), (675, .iload_n 3, 1), (676, .iconst 1, 1), (677, .iadd, 1), (678, .iaload, 1), (679, .invokevirtual 93, 3), (682, .if_icmp .eq 97, 3), (685, .iconst 0, 1), (686, .ireturn, 1), (687, .aload_n 1, 1), (688, .aload_n 0, 1), (689, .iload_n 3, 1), (690, .iconst 1, 1), (691, .iadd, 1), (692, .iaload, 1), (693, .invokevirtual 94, 3), (696, .aload_n 2, 1), (697, .aload_n 0, 1), (698, .iload_n 3, 1), (699, .iconst 1, 1), (700, .iadd, 1), (701, .iaload, 1), (702, .invokevirtual 97, 3), (705, .if_icmp .eq 74, 3), (708, .iconst 0, 1), (709, .ireturn, 1), (710, .aload_n 1, 1), (711, .aload_n 0, 1), (712, .iload_n 3, 1), (713, .iconst 1, 1), (714, .iadd, 1), (715, .iaload, 1), (716, .aload_n 0, 1), (717, .iload_n 3, 1), (718, .iconst 2, 1), (719, .iadd, 1), (720, .iaload, 1), (721, .invokevirtual 98, 3), (724, .aload_n 2, 1), (725, .aload_n 0, 1), (726, .iload_n 3, 1), (727, .iconst 1, 1), (728, .iadd, 1), (729, .iaload, 1), (730, .aload_n 0, 1), (731, .iload_n 3, 1), (732, .iconst 2, 1), (733, .iadd, 1), (734, .iaload, 1), (735, .invokevirtual 101, 3), (738, .if_icmp .eq 41, 3), (741, .iconst 0, 1), (742, .ireturn, 1), (743, .aload_n 1, 1), (744, .invokevirtual 102, 3), (747, .aload_n 2, 1), (748, .invokevirtual 105, 3), (751, .if_icmp .eq 28, 3), (754, .iconst 0, 1), (755, .ireturn, 1), (756, .aload_n 1, 1), (757, .aload_n 0, 1), (758, .iload_n 3, 1), (759, .iconst 1, 1), (760, .iadd, 1), (761, .iaload, 1), (762, .invokevirtual 106, 3), (765, .aload_n 2, 1), (766, .aload_n 0, 1), (767, .iload_n 3, 1), (768, .iconst 1, 1), (769, .iadd, 1), (770, .iaload, 1), (771, .invokevirtual 109, 3), (774, .if_icmp .eq 5, 3), (777, .iconst 0, 1), (778, .ireturn, 1), (779, .iinc 3 6, 3), (782, .goto (-764), 3), (785, .iconst 1, 1), (786, .ireturn, 1)]
def pm_mm0 : pm_M := (x, code, maxLocals, ret, 1, 10, false, 0, pm_cc0)
def pm_cc1 : List (Nat × Instr × Nat) := [(0, .aload_n 0, 1), (1, .invokespecial 1, 3), (4, .aload_n 0, 1), (5, .new 7, 3), (8, .dup, 1), (9, .invokespecial 9, 3), (12, .putfield 10, 3), (15, .aload_n 0, 1), (16, .bipush 32, 2), (18, .anewarray 16, 3), (21, .putfield 18, 3), (24, .aload_n 0, 1), (25, .new 16, 3), (28, .dup, 1), (29, .sipush 500, 3), (32, .invokespecial 22, 3), (35, .putfield 25, 3), (38, .aload_n 0, 1), (39, .new 29, 3), (42, .dup, 1), (43, .invokespecial 31, 3), (46, .putfield 32, 3), (49, .aload_n 0, 1), (50, .new 36, 3), (53, .dup, 1), (54, .aload_n 0, 1), (55, .getfield 10, 3), (58, .invokespecial 38, 3), (61, .putfield 41, 3), (64, .aload_n 0, 1), (65, .new 45, 3), (68, .dup, 1), (69, .invokespecial 47, 3), (72, .putfield 48, 3), (75, .aload_n 0, 1), (76, .new 52, 3), (79, .dup, 1), (80, .aload_n 0, 1), (81, .getfield 32, 3), (84, .invokespecial 54, 3), (87, .putfield 57, 3), (90, .return_, 1)]
def pm_mm1 : pm_M := (⟨"LambdaShelf", "<init>", "()V"⟩, prog_1_method_1_code, 1, (Option.none : Option FieldType), 0, 8, true, 144, pm_cc1)
def pm_cc2 : List (Nat × Instr × Nat) := [(0, .aload_n 0, 1), (1, .invokespecial 3, 3), (4, .aload_n 0, 1), (5, .sipush 600, 3), (8, .newarray .int, 2), (10, .putfield 9, 3), (13, .return_, 1)]
def pm_mm2 : pm_M := (⟨"LambdaShelf$Tape", "<init>", "()V"⟩, prog_6_method_1_code, 1, (Option.none : Option FieldType), 0, 4, true, 152, pm_cc2)
def pm_cc3 : List (Nat × Instr × Nat) := [(0, .aload_n 0, 1), (1, .invokespecial 3, 3), (4, .aload_n 0, 1), (5, .iload_n 1, 1), (6, .iconst 0, 1), (7, .invokestatic 9, 3), (10, .newarray .int, 2), (12, .putfield 15, 3), (15, .return_, 1)]
def pm_mm3 : pm_M := (⟨"LambdaShelf$Code", "<init>", "(I)V"⟩, prog_3_method_1_code, 2, (Option.none : Option FieldType), 1, 1, true, 169, pm_cc3)
def pm_cc4 : List (Nat × Instr × Nat) := [(0, .aload_n 0, 1), (1, .invokespecial 3, 3), (4, .aload_n 0, 1), (5, .sipush 502, 3), (8, .newarray .int, 2), (10, .putfield 11, 3), (13, .aload_n 0, 1), (14, .sipush 502, 3), (17, .newarray .int, 2), (19, .putfield 17, 3), (22, .return_, 1)]
def pm_mm4 : pm_M := (⟨"LambdaShelf$Shape", "<init>", "()V"⟩, prog_5_method_1_code, 1, (Option.none : Option FieldType), 0, 3, true, 199, pm_cc4)
def pm_cc5 : List (Nat × Instr × Nat) := [(0, .aload_n 0, 1), (1, .invokespecial 3, 3), (4, .aload_n 0, 1), (5, .sipush 601, 3), (8, .newarray .int, 2), (10, .putfield 9, 3), (13, .aload_n 0, 1), (14, .bipush 40, 2), (16, .newarray .int, 2), (18, .putfield 15, 3), (21, .aload_n 0, 1), (22, .bipush 40, 2), (24, .newarray .int, 2), (26, .putfield 18, 3), (29, .aload_n 0, 1), (30, .aload_n 1, 1), (31, .putfield 21, 3), (34, .return_, 1)]
def pm_mm5 : pm_M := (⟨"LambdaShelf$Reader", "<init>", "(LLambdaShelf$Tape;)V"⟩, prog_4_method_1_code, 2, (Option.none : Option FieldType), 1, 2, true, 212, pm_cc5)
def pm_cc6 : List (Nat × Instr × Nat) := [(0, .aload_n 0, 1), (1, .invokespecial 3, 3), (4, .aload_n 0, 1), (5, .sipush 500, 3), (8, .newarray .int, 2), (10, .putfield 9, 3), (13, .return_, 1)]
def pm_mm6 : pm_M := (⟨"LambdaShelf$Teller", "<init>", "()V"⟩, prog_7_method_1_code, 1, (Option.none : Option FieldType), 0, 5, true, 259, pm_cc6)
def pm_cc7 : List (Nat × Instr × Nat) := [(0, .aload_n 0, 1), (1, .invokespecial 3, 3), (4, .aload_n 0, 1), (5, .new 9, 3), (8, .dup, 1), (9, .sipush 500, 3), (12, .invokespecial 11, 3), (15, .putfield 14, 3), (18, .aload_n 0, 1), (19, .aload_n 1, 1), (20, .putfield 20, 3), (23, .return_, 1)]
def pm_mm7 : pm_M := (⟨"LambdaShelf$Turner", "<init>", "(LLambdaShelf$Shape;)V"⟩, prog_8_method_1_code, 2, (Option.none : Option FieldType), 1, 6, true, 284, pm_cc7)
def pm_cc8 : List (Nat × Instr × Nat) := [(0, .aload_n 0, 1), (1, .getfield 10, 3), (4, .getfield 61, 3), (7, .bipush 20, 2), (9, .iadd, 1), (10, .sipush 600, 3), (13, .if_icmp .le 6, 3), (16, .bipush (-3), 2), (18, .ireturn, 1), (19, .aload_n 0, 1), (20, .getfield 10, 3), (23, .iload_n 1, 1), (24, .invokevirtual 65, 3), (27, .aload_n 0, 1), (28, .getfield 10, 3), (31, .iload_n 2, 1), (32, .invokevirtual 65, 3), (35, .aload_n 0, 1), (36, .getfield 10, 3), (39, .iload_n 3, 1), (40, .invokevirtual 65, 3), (43, .aload_n 0, 1), (44, .getfield 10, 3), (47, .iload 4, 2), (49, .invokevirtual 65, 3), (52, .aload_n 0, 1), (53, .getfield 10, 3), (56, .iload 5, 2), (58, .invokevirtual 65, 3), (61, .aload_n 0, 1), (62, .getfield 10, 3), (65, .getfield 61, 3), (68, .ireturn, 1)]
def pm_mm8 : pm_M := (⟨"LambdaShelf", "feed", "(IIIII)I"⟩, prog_1_method_2_code, 6, (Option.some FieldType.int), 5, 8, false, 338, pm_cc8)
def pm_cc9 : List (Nat × Instr × Nat) := [(0, .bipush 24, 2), (2, .istore_n 2, 1), (3, .iload_n 2, 1), (4, .ifCond .lt 47, 3), (7, .aload_n 0, 1), (8, .getfield 15, 3), (11, .aload_n 0, 1), (12, .getfield 9, 3), (15, .arraylength, 1), (16, .if_icmp .ge 29, 3), (19, .aload_n 0, 1), (20, .getfield 9, 3), (23, .aload_n 0, 1), (24, .getfield 15, 3), (27, .iload_n 1, 1), (28, .iload_n 2, 1), (29, .iushr, 1), (30, .sipush 255, 3), (33, .iand, 1), (34, .iastore, 1), (35, .aload_n 0, 1), (36, .dup, 1), (37, .getfield 15, 3), (40, .iconst 1, 1), (41, .iadd, 1), (42, .putfield 15, 3), (45, .iinc 2 (-8), 3), (48, .goto (-45), 3), (51, .return_, 1)]
def pm_mm9 : pm_M := (⟨"LambdaShelf$Tape", "putFour", "(I)V"⟩, prog_6_method_2_code, 3, (Option.none : Option FieldType), 1, 4, false, 342, pm_cc9)
def pm_cc10 : List (Nat × Instr × Nat) := [(0, .iload_n 1, 1), (1, .ifCond .lt 14, 3), (4, .iload_n 1, 1), (5, .aload_n 0, 1), (6, .getfield 10, 3), (9, .getfield 61, 3), (12, .if_icmp .le 5, 3), (15, .iconst (-1), 1), (16, .ireturn, 1), (17, .aload_n 0, 1), (18, .getfield 10, 3), (21, .getfield 61, 3), (24, .istore_n 2, 1), (25, .aload_n 0, 1), (26, .getfield 10, 3), (29, .iload_n 1, 1), (30, .putfield 61, 3), (33, .iload_n 2, 1), (34, .ireturn, 1)]
def pm_mm10 : pm_M := (⟨"LambdaShelf", "end", "(I)I"⟩, prog_1_method_3_code, 3, (Option.some FieldType.int), 1, 8, false, 346, pm_cc10)
def pm_cc11 : List (Nat × Instr × Nat) := [(0, .aload_n 0, 1), (1, .invokevirtual 68, 3), (4, .astore_n 1, 1), (5, .aload_n 1, 1), (6, .ifnonnull 6, 3), (9, .bipush (-3), 2), (11, .ireturn, 1), (12, .aload_n 0, 1), (13, .aload_n 0, 1), (14, .getfield 41, 3), (17, .aload_n 1, 1), (18, .invokevirtual 72, 3), (21, .putfield 76, 3), (24, .aload_n 0, 1), (25, .getfield 10, 3), (28, .iconst 0, 1), (29, .putfield 61, 3), (32, .aload_n 0, 1), (33, .getfield 76, 3), (36, .ifCond .ne 10, 3), (39, .aload_n 0, 1), (40, .invokevirtual 79, 3), (43, .goto 13, 3), (46, .bipush (-10), 2), (48, .aload_n 0, 1), (49, .getfield 41, 3), (52, .getfield 83, 3), (55, .isub, 1), (56, .ireturn, 1)]
def pm_mm11 : pm_M := (⟨"LambdaShelf", "term", "()I"⟩, prog_1_method_4_code, 2, (Option.some FieldType.int), 0, 8, false, 350, pm_cc11)
def pm_cc12 : List (Nat × Instr × Nat) := [(0, .aload_n 0, 1), (1, .getfield 179, 3), (4, .ifCond .lt 15, 3), (7, .aload_n 0, 1), (8, .getfield 179, 3), (11, .aload_n 0, 1), (12, .getfield 18, 3), (15, .arraylength, 1), (16, .if_icmp .lt 5, 3), (19, .aconst_null, 1), (20, .areturn, 1), (21, .aload_n 0, 1), (22, .getfield 18, 3), (25, .aload_n 0, 1), (26, .getfield 179, 3), (29, .aaload, 1), (30, .astore_n 1, 1), (31, .aload_n 1, 1), (32, .ifnonnull 24, 3), (35, .new 16, 3), (38, .dup, 1), (39, .sipush 500, 3), (42, .invokespecial 22, 3), (45, .astore_n 1, 1), (46, .aload_n 0, 1), (47, .getfield 18, 3), (50, .aload_n 0, 1), (51, .getfield 179, 3), (54, .aload_n 1, 1), (55, .aastore, 1), (56, .aload_n 1, 1), (57, .invokevirtual 185, 3), (60, .aload_n 1, 1), (61, .areturn, 1)]
def pm_mm12 : pm_M := (⟨"LambdaShelf", "freshTerm", "()LLambdaShelf$Code;"⟩, prog_1_method_26_code, 2, (Option.some (FieldType.object "LambdaShelf$Code")), 0, 8, false, 354, pm_cc12)
def pm_cc13 : List (Nat × Instr × Nat) := [(0, .aload_n 0, 1), (1, .iconst 0, 1), (2, .putfield 21, 3), (5, .aload_n 0, 1), (6, .iconst 0, 1), (7, .putfield 25, 3), (10, .return_, 1)]
def pm_mm13 : pm_M := (⟨"LambdaShelf$Code", "clear", "()V"⟩, prog_3_method_3_code, 1, (Option.none : Option FieldType), 0, 1, false, 358, pm_cc13)
def pm_cc14 : List (Nat × Instr × Nat) := [(0, .aload_n 0, 1), (1, .iconst 0, 1), (2, .putfield 25, 3), (5, .aload_n 0, 1), (6, .iconst 0, 1), (7, .putfield 29, 3), (10, .aload_n 0, 1), (11, .iconst 0, 1), (12, .putfield 32, 3), (15, .aload_n 0, 1), (16, .iconst 0, 1), (17, .putfield 35, 3), (20, .aload_n 0, 1), (21, .iconst 0, 1), (22, .putfield 38, 3), (25, .aload_n 0, 1), (26, .iconst 0, 1), (27, .putfield 41, 3), (30, .aload_n 0, 1), (31, .invokevirtual 44, 3), (34, .aload_n 0, 1), (35, .invokevirtual 47, 3), (38, .aload_n 0, 1), (39, .getfield 38, 3), (42, .ifCond .ne 8, 3), (45, .aload_n 0, 1), (46, .aload_n 1, 1), (47, .invokevirtual 50, 3), (50, .aload_n 0, 1), (51, .getfield 38, 3), (54, .ireturn, 1)]
def pm_mm14 : pm_M := (⟨"LambdaShelf$Reader", "readInto", "(LLambdaShelf$Code;)I"⟩, prog_4_method_2_code, 2, (Option.some FieldType.int), 1, 2, false, 362, pm_cc14)
def pm_cc15 : List (Nat × Instr × Nat) := [(0, .aload_n 0, 1), (1, .aload_n 0, 1), (2, .getfield 25, 3), (5, .putfield 140, 3), (8, .aload_n 0, 1), (9, .iconst 0, 1), (10, .invokevirtual 121, 3), (13, .return_, 1)]
def pm_mm15 : pm_M := (⟨"LambdaShelf$Reader", "startRow", "()V"⟩, prog_4_method_18_code, 1, (Option.none : Option FieldType), 0, 2, false, 366, pm_cc15)
def pm_cc16 : List (Nat × Instr × Nat) := [(0, .aload_n 0, 1), (1, .getfield 25, 3), (4, .ifCond .lt 35, 3), (7, .aload_n 0, 1), (8, .getfield 25, 3), (11, .aload_n 0, 1), (12, .getfield 9, 3), (15, .arraylength, 1), (16, .if_icmp .ge 23, 3), (19, .aload_n 0, 1), (20, .getfield 9, 3), (23, .aload_n 0, 1), (24, .getfield 25, 3), (27, .iload_n 1, 1), (28, .iastore, 1), (29, .aload_n 0, 1), (30, .dup, 1), (31, .getfield 25, 3), (34, .iconst 1, 1), (35, .iadd, 1), (36, .putfield 25, 3), (39, .return_, 1)]
def pm_mm16 : pm_M := (⟨"LambdaShelf$Reader", "putItem", "(I)V"⟩, prog_4_method_21_code, 2, (Option.none : Option FieldType), 1, 2, false, 370, pm_cc16)
def pm_cc17 : List (Nat × Instr × Nat) := [(0, .aload_n 0, 1), (1, .iconst 4, 1), (2, .putfield 54, 3), (5, .iconst 0, 1), (6, .istore_n 1, 1), (7, .iload_n 1, 1), (8, .sipush 600, 3), (11, .if_icmp .gt 38, 3), (14, .aload_n 0, 1), (15, .getfield 54, 3), (18, .ifCond .eq 31, 3), (21, .aload_n 0, 1), (22, .getfield 38, 3), (25, .ifCond .ne 24, 3), (28, .aload_n 0, 1), (29, .invokevirtual 57, 3), (32, .aload_n 0, 1), (33, .getfield 38, 3), (36, .ifCond .ne 7, 3), (39, .aload_n 0, 1), (40, .invokevirtual 60, 3), (43, .iinc 1 1, 3), (46, .goto (-39), 3), (49, .return_, 1)]
def pm_mm17 : pm_M := (⟨"LambdaShelf$Reader", "takeTokens", "()V"⟩, prog_4_method_3_code, 2, (Option.none : Option FieldType), 0, 2, false, 374, pm_cc17)
def pm_cc18 : List (Nat × Instr × Nat) := [(0, .aload_n 0, 1), (1, .getfield 35, 3), (4, .aload_n 0, 1), (5, .getfield 21, 3), (8, .getfield 63, 3), (11, .if_icmp .ge 32, 3), (14, .aload_n 0, 1), (15, .getfield 21, 3), (18, .aload_n 0, 1), (19, .getfield 35, 3), (22, .invokevirtual 68, 3), (25, .bipush 32, 2), (27, .if_icmp .ne 16, 3), (30, .aload_n 0, 1), (31, .dup, 1), (32, .getfield 35, 3), (35, .iconst 1, 1), (36, .iadd, 1), (37, .putfield 35, 3), (40, .goto (-40), 3), (43, .aload_n 0, 1), (44, .aload_n 0, 1), (45, .getfield 35, 3), (48, .putfield 72, 3), (51, .aload_n 0, 1), (52, .getfield 21, 3), (55, .aload_n 0, 1), (56, .getfield 72, 3), (59, .invokevirtual 68, 3), (62, .istore_n 1, 1), (63, .aload_n 0, 1), (64, .getfield 72, 3), (67, .aload_n 0, 1), (68, .getfield 21, 3), (71, .getfield 63, 3), (74, .if_icmp .lt 11, 3), (77, .aload_n 0, 1), (78, .iconst 0, 1), (79, .putfield 54, 3), (82, .goto 106, 3), (85, .iload_n 1, 1), (86, .invokestatic 75, 3), (89, .ifCond .eq 10, 3), (92, .aload_n 0, 1), (93, .invokevirtual 79, 3), (96, .goto 92, 3), (99, .iload_n 1, 1), (100, .invokestatic 82, 3), (103, .ifCond .eq 10, 3), (106, .aload_n 0, 1), (107, .invokevirtual 85, 3), (110, .goto 78, 3), (113, .ldc 88, 2), (115, .iload_n 1, 1), (116, .i2c, 1), (117, .invokevirtual 90, 3), (120, .ifCond .lt 21, 3), (123, .aload_n 0, 1), (124, .iconst 3, 1), (125, .putfield 54, 3), (128, .aload_n 0, 1), (129, .dup, 1), (130, .getfield 35, 3), (133, .iconst 1, 1), (134, .iadd, 1), (135, .putfield 35, 3), (138, .goto 50, 3), (141, .iload_n 1, 1), (142, .bipush 40, 2), (144, .if_icmp .eq 21, 3), (147, .iload_n 1, 1), (148, .bipush 41, 2), (150, .if_icmp .eq 15, 3), (153, .iload_n 1, 1), (154, .bipush 92, 2), (156, .if_icmp .eq 9, 3), (159, .iload_n 1, 1), (160, .bipush 46, 2), (162, .if_icmp .ne 21, 3), (165, .aload_n 0, 1), (166, .iconst 4, 1), (167, .putfield 54, 3), (170, .aload_n 0, 1), (171, .dup, 1), (172, .getfield 35, 3), (175, .iconst 1, 1), (176, .iadd, 1), (177, .putfield 35, 3), (180, .goto 8, 3), (183, .aload_n 0, 1), (184, .iconst 1, 1), (185, .invokevirtual 95, 3), (188, .return_, 1)]
def pm_mm18 : pm_M := (⟨"LambdaShelf$Reader", "findToken", "()V"⟩, prog_4_method_4_code, 2, (Option.none : Option FieldType), 0, 2, false, 378, pm_cc18)
def pm_cc19 : List (Nat × Instr × Nat) := [(0, .iload_n 1, 1), (1, .ifCond .lt 29, 3), (4, .iload_n 1, 1), (5, .aload_n 0, 1), (6, .getfield 15, 3), (9, .if_icmp .ge 21, 3), (12, .iload_n 1, 1), (13, .aload_n 0, 1), (14, .getfield 9, 3), (17, .arraylength, 1), (18, .if_icmp .ge 12, 3), (21, .aload_n 0, 1), (22, .getfield 9, 3), (25, .iload_n 1, 1), (26, .iaload, 1), (27, .goto 4, 3), (30, .iconst (-1), 1), (31, .ireturn, 1)]
def pm_mm19 : pm_M := (⟨"LambdaShelf$Tape", "at", "(I)I"⟩, prog_6_method_3_code, 2, (Option.some FieldType.int), 1, 4, false, 382, pm_cc19)
def pm_cc20 : List (Nat × Instr × Nat) := [(0, .iload_n 0, 1), (1, .bipush 97, 2), (3, .if_icmp .lt 13, 3), (6, .iload_n 0, 1), (7, .bipush 122, 2), (9, .if_icmp .gt 7, 3), (12, .iconst 1, 1), (13, .goto 4, 3), (16, .iconst 0, 1), (17, .ireturn, 1)]
def pm_mm20 : pm_M := (⟨"LambdaShelf$Reader", "isSmall", "(I)Z"⟩, prog_4_method_26_code, 1, (Option.some FieldType.boolean), 1, 2, false, 385, pm_cc20)
def pm_cc21 : List (Nat × Instr × Nat) := [(0, .aload_n 0, 1), (1, .iconst 1, 1), (2, .putfield 54, 3), (5, .aload_n 0, 1), (6, .getfield 35, 3), (9, .aload_n 0, 1), (10, .getfield 21, 3), (13, .getfield 63, 3), (16, .if_icmp .ge 33, 3), (19, .aload_n 0, 1), (20, .getfield 21, 3), (23, .aload_n 0, 1), (24, .getfield 35, 3), (27, .invokevirtual 68, 3), (30, .invokestatic 75, 3), (33, .ifCond .eq 16, 3), (36, .aload_n 0, 1), (37, .dup, 1), (38, .getfield 35, 3), (41, .iconst 1, 1), (42, .iadd, 1), (43, .putfield 35, 3), (46, .goto (-41), 3), (49, .aload_n 0, 1), (50, .getfield 35, 3), (53, .aload_n 0, 1), (54, .getfield 72, 3), (57, .isub, 1), (58, .bipush 8, 2), (60, .if_icmp .le 8, 3), (63, .aload_n 0, 1), (64, .iconst 1, 1), (65, .invokevirtual 95, 3), (68, .return_, 1)]
def pm_mm21 : pm_M := (⟨"LambdaShelf$Reader", "findName", "()V"⟩, prog_4_method_5_code, 1, (Option.none : Option FieldType), 0, 2, false, 389, pm_cc21)
def pm_cc22 : List (Nat × Instr × Nat) := [(0, .aload_n 0, 1), (1, .iload_n 1, 1), (2, .putfield 38, 3), (5, .aload_n 0, 1), (6, .aload_n 0, 1), (7, .getfield 72, 3), (10, .putfield 41, 3), (13, .return_, 1)]
def pm_mm22 : pm_M := (⟨"LambdaShelf$Reader", "fail", "(I)V"⟩, prog_4_method_25_code, 2, (Option.none : Option FieldType), 1, 2, false, 393, pm_cc22)
def pm_cc23 : List (Nat × Instr × Nat) := [(0, .iload_n 0, 1), (1, .bipush 48, 2), (3, .if_icmp .lt 13, 3), (6, .iload_n 0, 1), (7, .bipush 57, 2), (9, .if_icmp .gt 7, 3), (12, .iconst 1, 1), (13, .goto 4, 3), (16, .iconst 0, 1), (17, .ireturn, 1)]
def pm_mm23 : pm_M := (⟨"LambdaShelf$Reader", "isFigure", "(I)Z"⟩, prog_4_method_27_code, 1, (Option.some FieldType.boolean), 1, 2, false, 396, pm_cc23)
def pm_cc24 : List (Nat × Instr × Nat) := [(0, .aload_n 0, 1), (1, .iconst 2, 1), (2, .putfield 54, 3), (5, .aload_n 0, 1), (6, .getfield 35, 3), (9, .aload_n 0, 1), (10, .getfield 21, 3), (13, .getfield 63, 3), (16, .if_icmp .ge 33, 3), (19, .aload_n 0, 1), (20, .getfield 21, 3), (23, .aload_n 0, 1), (24, .getfield 35, 3), (27, .invokevirtual 68, 3), (30, .invokestatic 82, 3), (33, .ifCond .eq 16, 3), (36, .aload_n 0, 1), (37, .dup, 1), (38, .getfield 35, 3), (41, .iconst 1, 1), (42, .iadd, 1), (43, .putfield 35, 3), (46, .goto (-41), 3), (49, .aload_n 0, 1), (50, .getfield 35, 3), (53, .aload_n 0, 1), (54, .getfield 72, 3), (57, .isub, 1), (58, .iconst 2, 1), (59, .if_icmp .gt 12, 3), (62, .aload_n 0, 1), (63, .invokevirtual 99, 3), (66, .bipush 20, 2), (68, .if_icmp .le 8, 3), (71, .aload_n 0, 1), (72, .iconst 1, 1), (73, .invokevirtual 95, 3), (76, .return_, 1)]
def pm_mm24 : pm_M := (⟨"LambdaShelf$Reader", "findNumber", "()V"⟩, prog_4_method_6_code, 1, (Option.none : Option FieldType), 0, 2, false, 400, pm_cc24)
def pm_cc25 : List (Nat × Instr × Nat) := [(0, .aload_n 0, 1), (1, .getfield 21, 3), (4, .aload_n 0, 1), (5, .getfield 72, 3), (8, .invokevirtual 68, 3), (11, .bipush 48, 2), (13, .isub, 1), (14, .istore_n 1, 1), (15, .aload_n 0, 1), (16, .getfield 35, 3), (19, .aload_n 0, 1), (20, .getfield 72, 3), (23, .isub, 1), (24, .iconst 1, 1), (25, .if_icmp .ne 7, 3), (28, .iload_n 1, 1), (29, .goto 24, 3), (32, .iload_n 1, 1), (33, .bipush 10, 2), (35, .imul, 1), (36, .aload_n 0, 1), (37, .getfield 21, 3), (40, .aload_n 0, 1), (41, .getfield 72, 3), (44, .iconst 1, 1), (45, .iadd, 1), (46, .invokevirtual 68, 3), (49, .iadd, 1), (50, .bipush 48, 2), (52, .isub, 1), (53, .ireturn, 1)]
def pm_mm25 : pm_M := (⟨"LambdaShelf$Reader", "numberRead", "()I"⟩, prog_4_method_7_code, 2, (Option.some FieldType.int), 0, 2, false, 404, pm_cc25)
def pm_cc26 : List (Nat × Instr × Nat) := [(0, .aload_n 0, 1), (1, .getfield 32, 3), (4, .ifCond .eq 8, 3), (7, .aload_n 0, 1), (8, .invokevirtual 103, 3), (11, .return_, 1), (12, .aload_n 0, 1), (13, .getfield 54, 3), (16, .tableswitch 98 1 4 #[32, 39, 54, 80], 32), (48, .aload_n 0, 1), (49, .invokevirtual 106, 3), (52, .goto 66, 3), (55, .aload_n 0, 1), (56, .sipush 1000, 3), (59, .aload_n 0, 1), (60, .invokevirtual 99, 3), (63, .iadd, 1), (64, .invokevirtual 109, 3), (67, .goto 51, 3), (70, .aload_n 0, 1), (71, .ldc 88, 2), (73, .aload_n 0, 1), (74, .getfield 21, 3), (77, .aload_n 0, 1), (78, .getfield 72, 3), (81, .invokevirtual 68, 3), (84, .i2c, 1), (85, .invokevirtual 90, 3), (88, .iconst 2, 1), (89, .iadd, 1), (90, .invokevirtual 109, 3), (93, .goto 25, 3), (96, .aload_n 0, 1), (97, .aload_n 0, 1), (98, .getfield 21, 3), (101, .aload_n 0, 1), (102, .getfield 72, 3), (105, .invokevirtual 68, 3), (108, .invokevirtual 112, 3), (111, .goto 7, 3), (114, .aload_n 0, 1), (115, .invokevirtual 115, 3), (118, .return_, 1)]
def pm_mm26 : pm_M := (⟨"LambdaShelf$Reader", "takeToken", "()V"⟩, prog_4_method_8_code, 1, (Option.none : Option FieldType), 0, 2, false, 493, pm_cc26)
def pm_cc27 : List (Nat × Instr × Nat) := [(0, .aload_n 0, 1), (1, .getfield 54, 3), (4, .iconst 1, 1), (5, .if_icmp .ne 24, 3), (8, .aload_n 0, 1), (9, .aload_n 0, 1), (10, .getfield 72, 3), (13, .invokevirtual 118, 3), (16, .aload_n 0, 1), (17, .iconst 1, 1), (18, .invokevirtual 121, 3), (21, .aload_n 0, 1), (22, .iconst 2, 1), (23, .putfield 32, 3), (26, .goto 52, 3), (29, .aload_n 0, 1), (30, .getfield 32, 3), (33, .iconst 2, 1), (34, .if_icmp .ne 39, 3), (37, .aload_n 0, 1), (38, .getfield 54, 3), (41, .iconst 4, 1), (42, .if_icmp .ne 31, 3), (45, .aload_n 0, 1), (46, .getfield 21, 3), (49, .aload_n 0, 1), (50, .getfield 72, 3), (53, .invokevirtual 68, 3), (56, .bipush 46, 2), (58, .if_icmp .ne 15, 3), (61, .aload_n 0, 1), (62, .iconst 0, 1), (63, .putfield 32, 3), (66, .aload_n 0, 1), (67, .invokevirtual 44, 3), (70, .goto 8, 3), (73, .aload_n 0, 1), (74, .iconst 2, 1), (75, .invokevirtual 95, 3), (78, .return_, 1)]
def pm_mm27 : pm_M := (⟨"LambdaShelf$Reader", "takeInHead", "()V"⟩, prog_4_method_9_code, 1, (Option.none : Option FieldType), 0, 2, false, 497, pm_cc27)
def pm_cc28 : List (Nat × Instr × Nat) := [(0, .aload_n 0, 1), (1, .getfield 29, 3), (4, .ifCond .lt 12, 3), (7, .aload_n 0, 1), (8, .getfield 29, 3), (11, .bipush 40, 2), (13, .if_icmp .lt 9, 3), (16, .aload_n 0, 1), (17, .iconst 4, 1), (18, .invokevirtual 95, 3), (21, .return_, 1), (22, .aload_n 0, 1), (23, .getfield 15, 3), (26, .aload_n 0, 1), (27, .getfield 29, 3), (30, .iload_n 1, 1), (31, .iastore, 1), (32, .aload_n 0, 1), (33, .getfield 18, 3), (36, .aload_n 0, 1), (37, .getfield 29, 3), (40, .aload_n 0, 1), (41, .getfield 140, 3), (44, .iastore, 1), (45, .aload_n 0, 1), (46, .dup, 1), (47, .getfield 29, 3), (50, .iconst 1, 1), (51, .iadd, 1), (52, .putfield 29, 3), (55, .return_, 1)]
def pm_mm28 : pm_M := (⟨"LambdaShelf$Reader", "openUp", "(I)V"⟩, prog_4_method_17_code, 2, (Option.none : Option FieldType), 1, 2, false, 501, pm_cc28)
def pm_cc29 : List (Nat × Instr × Nat) := [(0, .iconst 0, 1), (1, .istore_n 1, 1), (2, .aload_n 0, 1), (3, .getfield 29, 3), (6, .iconst 1, 1), (7, .isub, 1), (8, .istore_n 2, 1), (9, .iload_n 2, 1), (10, .ifCond .lt 53, 3), (13, .iload_n 2, 1), (14, .aload_n 0, 1), (15, .getfield 15, 3), (18, .arraylength, 1), (19, .if_icmp .ge 38, 3), (22, .aload_n 0, 1), (23, .getfield 15, 3), (26, .iload_n 2, 1), (27, .iaload, 1), (28, .iconst (-1), 1), (29, .if_icmp .eq 28, 3), (32, .aload_n 0, 1), (33, .aload_n 0, 1), (34, .getfield 15, 3), (37, .iload_n 2, 1), (38, .iaload, 1), (39, .invokevirtual 130, 3), (42, .ifCond .eq 12, 3), (45, .aload_n 0, 1), (46, .bipush 10, 2), (48, .iload_n 1, 1), (49, .iadd, 1), (50, .invokevirtual 109, 3), (53, .return_, 1), (54, .iinc 1 1, 3), (57, .iinc 2 (-1), 3), (60, .goto (-51), 3), (63, .aload_n 0, 1), (64, .iconst 3, 1), (65, .invokevirtual 95, 3), (68, .return_, 1)]
def pm_mm29 : pm_M := (⟨"LambdaShelf$Reader", "takeVariable", "()V"⟩, prog_4_method_11_code, 3, (Option.none : Option FieldType), 0, 2, false, 505, pm_cc29)
def pm_cc30 : List (Nat × Instr × Nat) := [(0, .aload_n 0, 1), (1, .getfield 35, 3), (4, .aload_n 0, 1), (5, .getfield 72, 3), (8, .isub, 1), (9, .istore_n 2, 1), (10, .iconst 0, 1), (11, .istore_n 3, 1), (12, .iload_n 3, 1), (13, .iload_n 2, 1), (14, .if_icmp .ge 37, 3), (17, .aload_n 0, 1), (18, .getfield 21, 3), (21, .iload_n 1, 1), (22, .iload_n 3, 1), (23, .iadd, 1), (24, .invokevirtual 68, 3), (27, .aload_n 0, 1), (28, .getfield 21, 3), (31, .aload_n 0, 1), (32, .getfield 72, 3), (35, .iload_n 3, 1), (36, .iadd, 1), (37, .invokevirtual 68, 3), (40, .if_icmp .eq 5, 3), (43, .iconst 0, 1), (44, .ireturn, 1), (45, .iinc 3 1, 3), (48, .goto (-36), 3), (51, .aload_n 0, 1), (52, .getfield 21, 3), (55, .iload_n 1, 1), (56, .iload_n 2, 1), (57, .iadd, 1), (58, .invokevirtual 68, 3), (61, .invokestatic 75, 3), (64, .ifCond .ne 7, 3), (67, .iconst 1, 1), (68, .goto 4, 3), (71, .iconst 0, 1), (72, .ireturn, 1)]
def pm_mm30 : pm_M := (⟨"LambdaShelf$Reader", "isNameAt", "(I)Z"⟩, prog_4_method_12_code, 4, (Option.some FieldType.boolean), 1, 2, false, 509, pm_cc30)
def pm_cc31 : List (Nat × Instr × Nat) := [(0, .aload_n 0, 1), (1, .invokevirtual 124, 3), (4, .aload_n 0, 1), (5, .iload_n 1, 1), (6, .invokevirtual 121, 3), (9, .return_, 1)]
def pm_mm31 : pm_M := (⟨"LambdaShelf$Reader", "takePart", "(I)V"⟩, prog_4_method_13_code, 2, (Option.none : Option FieldType), 1, 2, false, 513, pm_cc31)
def pm_cc32 : List (Nat × Instr × Nat) := [(0, .aload_n 0, 1), (1, .getfield 140, 3), (4, .ifCond .lt 28, 3), (7, .aload_n 0, 1), (8, .getfield 140, 3), (11, .aload_n 0, 1), (12, .getfield 9, 3), (15, .arraylength, 1), (16, .if_icmp .ge 16, 3), (19, .aload_n 0, 1), (20, .getfield 9, 3), (23, .aload_n 0, 1), (24, .getfield 140, 3), (27, .dup2, 1), (28, .iaload, 1), (29, .iconst 1, 1), (30, .isub, 1), (31, .iastore, 1), (32, .return_, 1)]
def pm_mm32 : pm_M := (⟨"LambdaShelf$Reader", "countPart", "()V"⟩, prog_4_method_20_code, 1, (Option.none : Option FieldType), 0, 2, false, 517, pm_cc32)
def pm_cc33 : List (Nat × Instr × Nat) := [(0, .iload_n 1, 1), (1, .bipush 40, 2), (3, .if_icmp .ne 19, 3), (6, .aload_n 0, 1), (7, .invokevirtual 124, 3), (10, .aload_n 0, 1), (11, .iconst (-1), 1), (12, .invokevirtual 118, 3), (15, .aload_n 0, 1), (16, .invokevirtual 44, 3), (19, .goto 39, 3), (22, .iload_n 1, 1), (23, .bipush 92, 2), (25, .if_icmp .ne 15, 3), (28, .aload_n 0, 1), (29, .invokevirtual 124, 3), (32, .aload_n 0, 1), (33, .iconst 1, 1), (34, .putfield 32, 3), (37, .goto 21, 3), (40, .iload_n 1, 1), (41, .bipush 41, 2), (43, .if_icmp .ne 10, 3), (46, .aload_n 0, 1), (47, .invokevirtual 127, 3), (50, .goto 8, 3), (53, .aload_n 0, 1), (54, .iconst 2, 1), (55, .invokevirtual 95, 3), (58, .return_, 1)]
def pm_mm33 : pm_M := (⟨"LambdaShelf$Reader", "takeSign", "(I)V"⟩, prog_4_method_10_code, 2, (Option.none : Option FieldType), 1, 2, false, 521, pm_cc33)
def pm_cc34 : List (Nat × Instr × Nat) := [(0, .aload_n 0, 1), (1, .invokevirtual 137, 3), (4, .istore_n 1, 1), (5, .aload_n 0, 1), (6, .invokevirtual 133, 3), (9, .ifCond .ne 16, 3), (12, .iload_n 1, 1), (13, .ifCond .lt 12, 3), (16, .iload_n 1, 1), (17, .aload_n 0, 1), (18, .getfield 18, 3), (21, .arraylength, 1), (22, .if_icmp .lt 9, 3), (25, .aload_n 0, 1), (26, .iconst 2, 1), (27, .invokevirtual 95, 3), (30, .return_, 1), (31, .aload_n 0, 1), (32, .iload_n 1, 1), (33, .putfield 29, 3), (36, .aload_n 0, 1), (37, .aload_n 0, 1), (38, .getfield 18, 3), (41, .iload_n 1, 1), (42, .iaload, 1), (43, .putfield 140, 3), (46, .return_, 1)]
def pm_mm34 : pm_M := (⟨"LambdaShelf$Reader", "closeParenthesis", "()V"⟩, prog_4_method_15_code, 2, (Option.none : Option FieldType), 0, 2, false, 525, pm_cc34)
def pm_cc35 : List (Nat × Instr × Nat) := [(0, .aload_n 0, 1), (1, .getfield 29, 3), (4, .iconst 1, 1), (5, .isub, 1), (6, .istore_n 1, 1), (7, .iload_n 1, 1), (8, .ifCond .lt 30, 3), (11, .iload_n 1, 1), (12, .aload_n 0, 1), (13, .getfield 15, 3), (16, .arraylength, 1), (17, .if_icmp .ge 15, 3), (20, .aload_n 0, 1), (21, .getfield 15, 3), (24, .iload_n 1, 1), (25, .iaload, 1), (26, .iconst (-1), 1), (27, .if_icmp .ne 5, 3), (30, .iload_n 1, 1), (31, .ireturn, 1), (32, .iinc 1 (-1), 3), (35, .goto (-28), 3), (38, .bipush (-4), 2), (40, .ireturn, 1)]
def pm_mm35 : pm_M := (⟨"LambdaShelf$Reader", "innermostParenthesis", "()I"⟩, prog_4_method_16_code, 2, (Option.some FieldType.int), 0, 2, false, 529, pm_cc35)
def pm_cc36 : List (Nat × Instr × Nat) := [(0, .aload_n 0, 1), (1, .getfield 140, 3), (4, .ifCond .lt 27, 3), (7, .aload_n 0, 1), (8, .getfield 140, 3), (11, .aload_n 0, 1), (12, .getfield 9, 3), (15, .arraylength, 1), (16, .if_icmp .ge 15, 3), (19, .aload_n 0, 1), (20, .getfield 9, 3), (23, .aload_n 0, 1), (24, .getfield 140, 3), (27, .iaload, 1), (28, .ifCond .ne 7, 3), (31, .iconst 1, 1), (32, .goto 4, 3), (35, .iconst 0, 1), (36, .ireturn, 1)]
def pm_mm36 : pm_M := (⟨"LambdaShelf$Reader", "isRowEmpty", "()Z"⟩, prog_4_method_19_code, 1, (Option.some FieldType.boolean), 0, 2, false, 533, pm_cc36)
def pm_cc37 : List (Nat × Instr × Nat) := [(0, .aload_n 0, 1), (1, .invokevirtual 133, 3), (4, .ifCond .ne 10, 3), (7, .aload_n 0, 1), (8, .invokevirtual 137, 3), (11, .ifCond .lt 8, 3), (14, .aload_n 0, 1), (15, .iconst 2, 1), (16, .invokevirtual 95, 3), (19, .return_, 1)]
def pm_mm37 : pm_M := (⟨"LambdaShelf$Reader", "takeEnd", "()V"⟩, prog_4_method_14_code, 1, (Option.none : Option FieldType), 0, 2, false, 537, pm_cc37)
def pm_cc38 : List (Nat × Instr × Nat) := [(0, .iconst 0, 1), (1, .istore_n 2, 1), (2, .iload_n 2, 1), (3, .aload_n 0, 1), (4, .getfield 25, 3), (7, .if_icmp .ge 35, 3), (10, .iload_n 2, 1), (11, .aload_n 0, 1), (12, .getfield 9, 3), (15, .arraylength, 1), (16, .if_icmp .ge 26, 3), (19, .aload_n 1, 1), (20, .getfield 143, 3), (23, .ifCond .ne 19, 3), (26, .aload_n 0, 1), (27, .getfield 9, 3), (30, .iload_n 2, 1), (31, .iaload, 1), (32, .aload_n 1, 1), (33, .invokestatic 149, 3), (36, .iinc 2 1, 3), (39, .goto (-37), 3), (42, .aload_n 1, 1), (43, .getfield 143, 3), (46, .ifCond .eq 8, 3), (49, .aload_n 0, 1), (50, .iconst 5, 1), (51, .putfield 38, 3), (54, .return_, 1)]
def pm_mm38 : pm_M := (⟨"LambdaShelf$Reader", "putItems", "(LLambdaShelf$Code;)V"⟩, prog_4_method_22_code, 3, (Option.none : Option FieldType), 1, 2, false, 541, pm_cc38)
def pm_cc39 : List (Nat × Instr × Nat) := [(0, .iload_n 0, 1), (1, .ifCond .ge 25, 3), (4, .iload_n 0, 1), (5, .ineg, 1), (6, .istore_n 2, 1), (7, .iload_n 2, 1), (8, .iconst 1, 1), (9, .if_icmp .le 14, 3), (12, .aload_n 1, 1), (13, .iconst 0, 1), (14, .invokevirtual 153, 3), (17, .iinc 2 (-1), 3), (20, .goto (-13), 3), (23, .goto 27, 3), (26, .iload_n 0, 1), (27, .sipush 1000, 3), (30, .if_icmp .lt 15, 3), (33, .iload_n 0, 1), (34, .sipush 1000, 3), (37, .isub, 1), (38, .aload_n 1, 1), (39, .invokestatic 156, 3), (42, .goto 8, 3), (45, .aload_n 1, 1), (46, .iload_n 0, 1), (47, .invokevirtual 153, 3), (50, .return_, 1)]
def pm_mm39 : pm_M := (⟨"LambdaShelf$Reader", "putItemCode", "(ILLambdaShelf$Code;)V"⟩, prog_4_method_23_code, 3, (Option.none : Option FieldType), 2, 2, false, 544, pm_cc39)
def pm_cc40 : List (Nat × Instr × Nat) := [(0, .aload_n 0, 1), (1, .getfield 21, 3), (4, .ifCond .lt 38, 3), (7, .aload_n 0, 1), (8, .getfield 21, 3), (11, .aload_n 0, 1), (12, .getfield 15, 3), (15, .arraylength, 1), (16, .if_icmp .ge 26, 3), (19, .aload_n 0, 1), (20, .getfield 15, 3), (23, .aload_n 0, 1), (24, .getfield 21, 3), (27, .iload_n 1, 1), (28, .iastore, 1), (29, .aload_n 0, 1), (30, .dup, 1), (31, .getfield 21, 3), (34, .iconst 1, 1), (35, .iadd, 1), (36, .putfield 21, 3), (39, .goto 8, 3), (42, .aload_n 0, 1), (43, .iconst 1, 1), (44, .putfield 25, 3), (47, .return_, 1)]
def pm_mm40 : pm_M := (⟨"LambdaShelf$Code", "put", "(I)V"⟩, prog_3_method_4_code, 2, (Option.none : Option FieldType), 1, 1, false, 548, pm_cc40)
def pm_cc41 : List (Nat × Instr × Nat) := [(0, .aload_n 1, 1), (1, .iconst 1, 1), (2, .invokevirtual 153, 3), (5, .aload_n 1, 1), (6, .iconst 1, 1), (7, .invokevirtual 153, 3), (10, .iconst 0, 1), (11, .istore_n 2, 1), (12, .iload_n 2, 1), (13, .iload_n 0, 1), (14, .if_icmp .ge 20, 3), (17, .aload_n 1, 1), (18, .iconst 0, 1), (19, .invokevirtual 153, 3), (22, .aload_n 1, 1), (23, .bipush 11, 2), (25, .invokevirtual 153, 3), (28, .iinc 2 1, 3), (31, .goto (-19), 3), (34, .aload_n 1, 1), (35, .bipush 10, 2), (37, .invokevirtual 153, 3), (40, .return_, 1)]
def pm_mm41 : pm_M := (⟨"LambdaShelf$Reader", "putNumber", "(ILLambdaShelf$Code;)V"⟩, prog_4_method_24_code, 3, (Option.none : Option FieldType), 2, 2, false, 551, pm_cc41)
def pm_cc42 : List (Nat × Instr × Nat) := [(0, .aload_n 0, 1), (1, .dup, 1), (2, .getfield 179, 3), (5, .iconst 1, 1), (6, .iadd, 1), (7, .putfield 179, 3), (10, .aload_n 0, 1), (11, .getfield 179, 3), (14, .iconst 1, 1), (15, .isub, 1), (16, .ireturn, 1)]
def pm_mm42 : pm_M := (⟨"LambdaShelf", "keepFresh", "()I"⟩, prog_1_method_27_code, 1, (Option.some FieldType.int), 0, 8, false, 555, pm_cc42)
def pm_cc43 : List (Nat × Instr × Nat) := [(0, .aload_n 0, 1), (1, .getfield 76, 3), (4, .ireturn, 1)]
def pm_mm43 : pm_M := (⟨"LambdaShelf", "fault", "()I"⟩, prog_1_method_5_code, 1, (Option.some FieldType.int), 0, 8, false, 560, pm_cc43)
def pm_cc44 : List (Nat × Instr × Nat) := [(0, .aload_n 0, 1), (1, .iload_n 1, 1), (2, .invokevirtual 86, 3), (5, .astore_n 2, 1), (6, .aload_n 2, 1), (7, .ifnonnull 7, 3), (10, .iconst (-1), 1), (11, .goto 7, 3), (14, .aload_n 2, 1), (15, .getfield 90, 3), (18, .ireturn, 1)]
def pm_mm44 : pm_M := (⟨"LambdaShelf", "size", "(I)I"⟩, prog_1_method_6_code, 3, (Option.some FieldType.int), 1, 8, false, 564, pm_cc44)
def pm_cc45 : List (Nat × Instr × Nat) := [(0, .iload_n 1, 1), (1, .ifCond .lt 29, 3), (4, .iload_n 1, 1), (5, .aload_n 0, 1), (6, .getfield 179, 3), (9, .if_icmp .ge 21, 3), (12, .iload_n 1, 1), (13, .aload_n 0, 1), (14, .getfield 18, 3), (17, .arraylength, 1), (18, .if_icmp .ge 12, 3), (21, .aload_n 0, 1), (22, .getfield 18, 3), (25, .iload_n 1, 1), (26, .aaload, 1), (27, .goto 4, 3), (30, .aconst_null, 1), (31, .areturn, 1)]
def pm_mm45 : pm_M := (⟨"LambdaShelf", "termAt", "(I)LLambdaShelf$Code;"⟩, prog_1_method_25_code, 2, (Option.some (FieldType.object "LambdaShelf$Code")), 1, 8, false, 568, pm_cc45)
def pm_cc46 : List (Nat × Instr × Nat) := [(0, .aload_n 0, 1), (1, .iload_n 1, 1), (2, .invokevirtual 86, 3), (5, .astore_n 3, 1), (6, .aload_n 3, 1), (7, .ifnonnull 7, 3), (10, .iconst (-1), 1), (11, .goto 8, 3), (14, .aload_n 3, 1), (15, .iload_n 2, 1), (16, .invokevirtual 91, 3), (19, .ireturn, 1)]
def pm_mm46 : pm_M := (⟨"LambdaShelf", "code", "(II)I"⟩, prog_1_method_7_code, 4, (Option.some FieldType.int), 2, 8, false, 572, pm_cc46)
def pm_cc47 : List (Nat × Instr × Nat) := [(0, .iload_n 1, 1), (1, .ifCond .lt 29, 3), (4, .iload_n 1, 1), (5, .aload_n 0, 1), (6, .getfield 21, 3), (9, .if_icmp .ge 21, 3), (12, .iload_n 1, 1), (13, .aload_n 0, 1), (14, .getfield 15, 3), (17, .arraylength, 1), (18, .if_icmp .ge 12, 3), (21, .aload_n 0, 1), (22, .getfield 15, 3), (25, .iload_n 1, 1), (26, .iaload, 1), (27, .goto 4, 3), (30, .iconst (-1), 1), (31, .ireturn, 1)]
def pm_mm47 : pm_M := (⟨"LambdaShelf$Code", "at", "(I)I"⟩, prog_3_method_2_code, 2, (Option.some FieldType.int), 1, 1, false, 576, pm_cc47)
def pm_cc48 : List (Nat × Instr × Nat) := [(0, .aload_n 0, 1), (1, .iload_n 1, 1), (2, .invokevirtual 86, 3), (5, .astore_n 3, 1), (6, .aload_n 3, 1), (7, .ifnonnull 7, 3), (10, .iconst (-1), 1), (11, .goto 12, 3), (14, .aload_n 0, 1), (15, .getfield 48, 3), (18, .aload_n 3, 1), (19, .iload_n 2, 1), (20, .invokevirtual 95, 3), (23, .ireturn, 1)]
def pm_mm48 : pm_M := (⟨"LambdaShelf", "letter", "(II)I"⟩, prog_1_method_8_code, 4, (Option.some FieldType.int), 2, 8, false, 580, pm_cc48)
def pm_cc49 : List (Nat × Instr × Nat) := [(0, .aload_n 0, 1), (1, .iconst 0, 1), (2, .putfield 15, 3), (5, .aload_n 0, 1), (6, .iconst 0, 1), (7, .putfield 19, 3), (10, .aload_n 0, 1), (11, .iload_n 2, 1), (12, .putfield 22, 3), (15, .aload_n 0, 1), (16, .iconst 0, 1), (17, .putfield 25, 3), (20, .aload_n 0, 1), (21, .iconst (-1), 1), (22, .putfield 28, 3), (25, .iconst 0, 1), (26, .istore_n 3, 1), (27, .iload_n 3, 1), (28, .aload_n 1, 1), (29, .getfield 31, 3), (32, .if_icmp .ge 26, 3), (35, .aload_n 0, 1), (36, .getfield 28, 3), (39, .iconst (-1), 1), (40, .if_icmp .ne 18, 3), (43, .aload_n 0, 1), (44, .aload_n 1, 1), (45, .iload_n 3, 1), (46, .invokevirtual 36, 3), (49, .invokevirtual 40, 3), (52, .iinc 3 1, 3), (55, .goto (-28), 3), (58, .aload_n 0, 1), (59, .getfield 22, 3), (62, .aload_n 0, 1), (63, .getfield 25, 3), (66, .if_icmp .ne 15, 3), (69, .aload_n 0, 1), (70, .getfield 28, 3), (73, .iconst (-1), 1), (74, .if_icmp .ne 7, 3), (77, .iconst 0, 1), (78, .goto 7, 3), (81, .aload_n 0, 1), (82, .getfield 28, 3), (85, .ireturn, 1)]
def pm_mm49 : pm_M := (⟨"LambdaShelf$Teller", "byteOf", "(LLambdaShelf$Code;I)I"⟩, prog_7_method_2_code, 4, (Option.some FieldType.int), 2, 5, false, 584, pm_cc49)
def pm_cc50 : List (Nat × Instr × Nat) := [(0, .aload_n 0, 1), (1, .iload_n 1, 1), (2, .invokevirtual 44, 3), (5, .ifCond .eq 7, 3), (8, .iconst 4, 1), (9, .goto 4, 3), (12, .iconst 0, 1), (13, .istore_n 2, 1), (14, .iload_n 2, 1), (15, .ifCond .eq 9, 3), (18, .aload_n 0, 1), (19, .bipush 40, 2), (21, .invokevirtual 48, 3), (24, .iload_n 1, 1), (25, .ifCond .ne 13, 3), (28, .aload_n 0, 1), (29, .iconst 0, 1), (30, .iload_n 2, 1), (31, .ior, 1), (32, .invokevirtual 51, 3), (35, .goto 57, 3), (38, .iload_n 1, 1), (39, .iconst 1, 1), (40, .if_icmp .ne 43, 3), (43, .aload_n 0, 1), (44, .bipush 92, 2), (46, .invokevirtual 48, 3), (49, .aload_n 0, 1), (50, .aload_n 0, 1), (51, .getfield 19, 3), (54, .invokevirtual 54, 3), (57, .aload_n 0, 1), (58, .bipush 46, 2), (60, .invokevirtual 48, 3), (63, .aload_n 0, 1), (64, .dup, 1), (65, .getfield 19, 3), (68, .iconst 1, 1), (69, .iadd, 1), (70, .putfield 19, 3), (73, .aload_n 0, 1), (74, .iconst 2, 1), (75, .iload_n 2, 1), (76, .ior, 1), (77, .invokevirtual 51, 3), (80, .goto 12, 3), (83, .aload_n 0, 1), (84, .iload_n 1, 1), (85, .invokevirtual 57, 3), (88, .aload_n 0, 1), (89, .invokevirtual 60, 3), (92, .return_, 1)]
def pm_mm50 : pm_M := (⟨"LambdaShelf$Teller", "tellNode", "(I)V"⟩, prog_7_method_3_code, 3, (Option.none : Option FieldType), 1, 5, false, 589, pm_cc50)
def pm_cc51 : List (Nat × Instr × Nat) := [(0, .aload_n 0, 1), (1, .getfield 15, 3), (4, .ifCond .le 15, 3), (7, .aload_n 0, 1), (8, .getfield 15, 3), (11, .aload_n 0, 1), (12, .getfield 9, 3), (15, .arraylength, 1), (16, .if_icmp .le 5, 3), (19, .iconst 0, 1), (20, .ireturn, 1), (21, .aload_n 0, 1), (22, .getfield 9, 3), (25, .aload_n 0, 1), (26, .getfield 15, 3), (29, .iconst 1, 1), (30, .isub, 1), (31, .iaload, 1), (32, .bipush (-5), 2), (34, .iand, 1), (35, .istore_n 2, 1), (36, .iload_n 2, 1), (37, .ifCond .ne 8, 3), (40, .iload_n 1, 1), (41, .iconst 1, 1), (42, .if_icmp .eq 17, 3), (45, .iload_n 2, 1), (46, .iconst 1, 1), (47, .if_icmp .ne 16, 3), (50, .iload_n 1, 1), (51, .iconst 1, 1), (52, .if_icmp .eq 7, 3), (55, .iload_n 1, 1), (56, .ifCond .ne 7, 3), (59, .iconst 1, 1), (60, .goto 4, 3), (63, .iconst 0, 1), (64, .ireturn, 1)]
def pm_mm51 : pm_M := (⟨"LambdaShelf$Teller", "isWrapped", "(I)Z"⟩, prog_7_method_4_code, 3, (Option.some FieldType.boolean), 1, 5, false, 593, pm_cc51)
def pm_cc52 : List (Nat × Instr × Nat) := [(0, .aload_n 0, 1), (1, .getfield 25, 3), (4, .aload_n 0, 1), (5, .getfield 22, 3), (8, .if_icmp .ne 8, 3), (11, .aload_n 0, 1), (12, .iload_n 1, 1), (13, .putfield 28, 3), (16, .aload_n 0, 1), (17, .dup, 1), (18, .getfield 25, 3), (21, .iconst 1, 1), (22, .iadd, 1), (23, .putfield 25, 3), (26, .return_, 1)]
def pm_mm52 : pm_M := (⟨"LambdaShelf$Teller", "tell", "(I)V"⟩, prog_7_method_9_code, 2, (Option.none : Option FieldType), 1, 5, false, 597, pm_cc52)
def pm_cc53 : List (Nat × Instr × Nat) := [(0, .aload_n 0, 1), (1, .getfield 15, 3), (4, .ifCond .lt 35, 3), (7, .aload_n 0, 1), (8, .getfield 15, 3), (11, .aload_n 0, 1), (12, .getfield 9, 3), (15, .arraylength, 1), (16, .if_icmp .ge 23, 3), (19, .aload_n 0, 1), (20, .getfield 9, 3), (23, .aload_n 0, 1), (24, .getfield 15, 3), (27, .iload_n 1, 1), (28, .iastore, 1), (29, .aload_n 0, 1), (30, .dup, 1), (31, .getfield 15, 3), (34, .iconst 1, 1), (35, .iadd, 1), (36, .putfield 15, 3), (39, .return_, 1)]
def pm_mm53 : pm_M := (⟨"LambdaShelf$Teller", "goInto", "(I)V"⟩, prog_7_method_5_code, 2, (Option.none : Option FieldType), 1, 5, false, 601, pm_cc53)
def pm_cc54 : List (Nat × Instr × Nat) := [(0, .iload_n 1, 1), (1, .bipush 26, 2), (3, .if_icmp .lt 16, 3), (6, .aload_n 0, 1), (7, .bipush 97, 2), (9, .iload_n 1, 1), (10, .bipush 26, 2), (12, .idiv, 1), (13, .iadd, 1), (14, .iconst 1, 1), (15, .isub, 1), (16, .invokevirtual 48, 3), (19, .aload_n 0, 1), (20, .bipush 97, 2), (22, .iload_n 1, 1), (23, .bipush 26, 2), (25, .irem, 1), (26, .iadd, 1), (27, .invokevirtual 48, 3), (30, .return_, 1)]
def pm_mm54 : pm_M := (⟨"LambdaShelf$Teller", "tellName", "(I)V"⟩, prog_7_method_8_code, 2, (Option.none : Option FieldType), 1, 5, false, 605, pm_cc54)
def pm_cc55 : List (Nat × Instr × Nat) := [(0, .iload_n 1, 1), (1, .bipush 10, 2), (3, .if_icmp .lt 21, 3), (6, .aload_n 0, 1), (7, .aload_n 0, 1), (8, .getfield 19, 3), (11, .iconst 1, 1), (12, .isub, 1), (13, .iload_n 1, 1), (14, .bipush 10, 2), (16, .isub, 1), (17, .isub, 1), (18, .invokevirtual 54, 3), (21, .goto 26, 3), (24, .iload_n 1, 1), (25, .iconst 2, 1), (26, .if_icmp .lt 21, 3), (29, .iload_n 1, 1), (30, .bipush 6, 2), (32, .if_icmp .gt 15, 3), (35, .aload_n 0, 1), (36, .ldc 69, 2), (38, .iload_n 1, 1), (39, .iconst 2, 1), (40, .isub, 1), (41, .invokevirtual 71, 3), (44, .invokevirtual 48, 3), (47, .return_, 1)]
def pm_mm55 : pm_M := (⟨"LambdaShelf$Teller", "tellLeaf", "(I)V"⟩, prog_7_method_7_code, 2, (Option.none : Option FieldType), 1, 5, false, 609, pm_cc55)
def pm_cc56 : List (Nat × Instr × Nat) := [(0, .aload_n 0, 1), (1, .getfield 15, 3), (4, .aload_n 0, 1), (5, .getfield 9, 3), (8, .arraylength, 1), (9, .invokestatic 63, 3), (12, .iconst 1, 1), (13, .isub, 1), (14, .istore_n 1, 1), (15, .iload_n 1, 1), (16, .ifCond .lt 77, 3), (19, .aload_n 0, 1), (20, .getfield 9, 3), (23, .iload_n 1, 1), (24, .iaload, 1), (25, .bipush (-5), 2), (27, .iand, 1), (28, .istore_n 2, 1), (29, .iload_n 2, 1), (30, .ifCond .ne 20, 3), (33, .aload_n 0, 1), (34, .bipush 32, 2), (36, .invokevirtual 48, 3), (39, .aload_n 0, 1), (40, .getfield 9, 3), (43, .iload_n 1, 1), (44, .dup2, 1), (45, .iaload, 1), (46, .iconst 1, 1), (47, .ior, 1), (48, .iastore, 1), (49, .return_, 1), (50, .iload_n 2, 1), (51, .iconst 2, 1), (52, .if_icmp .ne 13, 3), (55, .aload_n 0, 1), (56, .dup, 1), (57, .getfield 19, 3), (60, .iconst 1, 1), (61, .isub, 1), (62, .putfield 19, 3), (65, .aload_n 0, 1), (66, .getfield 9, 3), (69, .iload_n 1, 1), (70, .iaload, 1), (71, .iconst 4, 1), (72, .iand, 1), (73, .ifCond .eq 9, 3), (76, .aload_n 0, 1), (77, .bipush 41, 2), (79, .invokevirtual 48, 3), (82, .aload_n 0, 1), (83, .iload_n 1, 1), (84, .putfield 15, 3), (87, .iinc 1 (-1), 3), (90, .goto (-75), 3), (93, .return_, 1)]
def pm_mm56 : pm_M := (⟨"LambdaShelf$Teller", "leaveEnded", "()V"⟩, prog_7_method_6_code, 3, (Option.none : Option FieldType), 0, 5, false, 634, pm_cc56)
def pm_cc57 : List (Nat × Instr × Nat) := [(0, .aload_n 0, 1), (1, .iload_n 1, 1), (2, .invokevirtual 86, 3), (5, .astore_n 3, 1), (6, .aload_n 0, 1), (7, .iload_n 2, 1), (8, .invokevirtual 86, 3), (11, .astore 4, 2), (13, .aload_n 3, 1), (14, .ifnull 8, 3), (17, .aload 4, 2), (19, .ifnonnull 5, 3), (22, .iconst (-1), 1), (23, .ireturn, 1), (24, .aload_n 0, 1), (25, .invokevirtual 68, 3), (28, .astore 5, 2), (30, .aload 5, 2), (32, .ifnonnull 6, 3), (35, .bipush (-3), 2), (37, .ireturn, 1), (38, .aload 5, 2), (40, .iconst 0, 1), (41, .invokevirtual 99, 3), (44, .aload 5, 2), (46, .aload_n 3, 1), (47, .invokevirtual 102, 3), (50, .aload 5, 2), (52, .aload 4, 2), (54, .invokevirtual 102, 3), (57, .aload 5, 2), (59, .getfield 106, 3), (62, .ifCond .eq 8, 3), (65, .bipush (-3), 2), (67, .goto 7, 3), (70, .aload_n 0, 1), (71, .invokevirtual 79, 3), (74, .ireturn, 1)]
def pm_mm57 : pm_M := (⟨"LambdaShelf", "apply", "(II)I"⟩, prog_1_method_9_code, 6, (Option.some FieldType.int), 2, 8, false, 639, pm_cc57)
def pm_cc58 : List (Nat × Instr × Nat) := [(0, .aload_n 0, 1), (1, .aload_n 1, 1), (2, .iconst 0, 1), (3, .aload_n 1, 1), (4, .getfield 21, 3), (7, .invokevirtual 35, 3), (10, .return_, 1)]
def pm_mm58 : pm_M := (⟨"LambdaShelf$Code", "putAll", "(LLambdaShelf$Code;)V"⟩, prog_3_method_6_code, 2, (Option.none : Option FieldType), 1, 1, false, 644, pm_cc58)
def pm_cc59 : List (Nat × Instr × Nat) := [(0, .iload_n 2, 1), (1, .ifCond .lt 20, 3), (4, .iload_n 2, 1), (5, .iload_n 3, 1), (6, .if_icmp .gt 15, 3), (9, .iload_n 3, 1), (10, .aload_n 1, 1), (11, .getfield 21, 3), (14, .if_icmp .gt 7, 3), (17, .iconst 1, 1), (18, .goto 4, 3), (21, .iconst 0, 1), (22, .istore 4, 2), (24, .iload 4, 2), (26, .ifCond .eq 19, 3), (29, .iload_n 3, 1), (30, .iload_n 2, 1), (31, .isub, 1), (32, .aload_n 0, 1), (33, .getfield 15, 3), (36, .arraylength, 1), (37, .aload_n 0, 1), (38, .getfield 21, 3), (41, .isub, 1), (42, .if_icmp .le 9, 3), (45, .aload_n 0, 1), (46, .iconst 1, 1), (47, .putfield 25, 3), (50, .return_, 1), (51, .aload_n 1, 1), (52, .getfield 15, 3), (55, .iload_n 2, 1), (56, .aload_n 0, 1), (57, .getfield 15, 3), (60, .aload_n 0, 1), (61, .getfield 21, 3), (64, .iload_n 3, 1), (65, .iload_n 2, 1), (66, .isub, 1), (67, .invokestatic 29, 3), (70, .aload_n 0, 1), (71, .dup, 1), (72, .getfield 21, 3), (75, .iload_n 3, 1), (76, .iload_n 2, 1), (77, .isub, 1), (78, .iadd, 1), (79, .putfield 21, 3), (82, .return_, 1)]
def pm_mm59 : pm_M := (⟨"LambdaShelf$Code", "putPart", "(LLambdaShelf$Code;II)V"⟩, prog_3_method_5_code, 5, (Option.none : Option FieldType), 3, 1, false, 648, pm_cc59)
def pm_cc60 : List (Nat × Instr × Nat) := [(0, .aload_n 0, 1), (1, .iload_n 1, 1), (2, .invokevirtual 86, 3), (5, .astore_n 2, 1), (6, .aload_n 2, 1), (7, .ifnonnull 5, 3), (10, .iconst (-1), 1), (11, .ireturn, 1), (12, .aload_n 0, 1), (13, .invokevirtual 68, 3), (16, .astore_n 3, 1), (17, .aload_n 3, 1), (18, .ifnonnull 6, 3), (21, .bipush (-3), 2), (23, .ireturn, 1), (24, .aload_n 3, 1), (25, .aload_n 2, 1), (26, .invokevirtual 102, 3), (29, .aload_n 0, 1), (30, .invokevirtual 79, 3), (33, .ireturn, 1)]
def pm_mm60 : pm_M := (⟨"LambdaShelf", "copy", "(I)I"⟩, prog_1_method_10_code, 4, (Option.some FieldType.int), 1, 8, false, 655, pm_cc60)
def pm_cc61 : List (Nat × Instr × Nat) := [(0, .aload_n 0, 1), (1, .iload_n 1, 1), (2, .invokevirtual 86, 3), (5, .astore_n 3, 1), (6, .aload_n 0, 1), (7, .iload_n 2, 1), (8, .invokevirtual 86, 3), (11, .astore 4, 2), (13, .aload_n 3, 1), (14, .ifnull 8, 3), (17, .aload 4, 2), (19, .ifnonnull 5, 3), (22, .iconst (-1), 1), (23, .ireturn, 1), (24, .aload_n 3, 1), (25, .aload 4, 2), (27, .invokevirtual 110, 3), (30, .ifCond .eq 7, 3), (33, .iconst 1, 1), (34, .goto 4, 3), (37, .iconst 0, 1), (38, .ireturn, 1)]
def pm_mm61 : pm_M := (⟨"LambdaShelf", "same", "(II)I"⟩, prog_1_method_11_code, 5, (Option.some FieldType.int), 2, 8, false, 659, pm_cc61)
def pm_cc62 : List (Nat × Instr × Nat) := [(0, .aload_n 0, 1), (1, .getfield 21, 3), (4, .aload_n 1, 1), (5, .getfield 21, 3), (8, .if_icmp .eq 5, 3), (11, .iconst 0, 1), (12, .ireturn, 1), (13, .iconst 0, 1), (14, .istore_n 2, 1), (15, .iload_n 2, 1), (16, .aload_n 0, 1), (17, .getfield 21, 3), (20, .if_icmp .ge 24, 3), (23, .aload_n 0, 1), (24, .iload_n 2, 1), (25, .invokevirtual 39, 3), (28, .aload_n 1, 1), (29, .iload_n 2, 1), (30, .invokevirtual 39, 3), (33, .if_icmp .eq 5, 3), (36, .iconst 0, 1), (37, .ireturn, 1), (38, .iinc 2 1, 3), (41, .goto (-26), 3), (44, .iconst 1, 1), (45, .ireturn, 1)]
def pm_mm62 : pm_M := (⟨"LambdaShelf$Code", "isLike", "(LLambdaShelf$Code;)Z"⟩, prog_3_method_8_code, 3, (Option.some FieldType.boolean), 1, 1, false, 663, pm_cc62)
def pm_cc63 : List (Nat × Instr × Nat) := [(0, .aload_n 0, 1), (1, .iload_n 1, 1), (2, .invokevirtual 86, 3), (5, .astore_n 3, 1), (6, .aload_n 3, 1), (7, .ifnull 10, 3), (10, .iload_n 2, 1), (11, .invokestatic 114, 3), (14, .ifCond .ne 7, 3), (17, .iconst (-1), 1), (18, .goto 12, 3), (21, .aload_n 0, 1), (22, .getfield 57, 3), (25, .aload_n 3, 1), (26, .iload_n 2, 1), (27, .invokevirtual 118, 3), (30, .ireturn, 1)]
def pm_mm63 : pm_M := (⟨"LambdaShelf", "step", "(II)I"⟩, prog_1_method_12_code, 4, (Option.some FieldType.int), 2, 8, false, 668, pm_cc63)
def pm_cc64 : List (Nat × Instr × Nat) := [(0, .iload_n 0, 1), (1, .ifCond .lt 12, 3), (4, .iload_n 0, 1), (5, .iconst 3, 1), (6, .if_icmp .gt 7, 3), (9, .iconst 1, 1), (10, .goto 4, 3), (13, .iconst 0, 1), (14, .ireturn, 1)]
def pm_mm64 : pm_M := (⟨"LambdaShelf", "isWay", "(I)Z"⟩, prog_1_method_30_code, 1, (Option.some FieldType.boolean), 1, 8, false, 671, pm_cc64)
def pm_cc65 : List (Nat × Instr × Nat) := [(0, .aload_n 0, 1), (1, .aload_n 1, 1), (2, .iload_n 2, 1), (3, .invokevirtual 45, 3), (6, .istore_n 3, 1), (7, .iload_n 3, 1), (8, .ifCond .ge 5, 3), (11, .iconst 0, 1), (12, .ireturn, 1), (13, .aload_n 1, 1), (14, .iload_n 3, 1), (15, .invokevirtual 48, 3), (18, .istore 4, 2), (20, .aload_n 0, 1), (21, .getfield 20, 3), (24, .aload_n 1, 1), (25, .iload_n 3, 1), (26, .iload 4, 2), (28, .invokevirtual 52, 3), (31, .aload_n 0, 1), (32, .getfield 14, 3), (35, .invokevirtual 58, 3), (38, .iload_n 2, 1), (39, .iconst 3, 1), (40, .if_icmp .ne 26, 3), (43, .aload_n 0, 1), (44, .aload_n 1, 1), (45, .iload_n 3, 1), (46, .iconst 2, 1), (47, .iadd, 1), (48, .aload_n 0, 1), (49, .getfield 20, 3), (52, .iload_n 3, 1), (53, .iconst 2, 1), (54, .iadd, 1), (55, .invokevirtual 61, 3), (58, .iload 4, 2), (60, .invokevirtual 64, 3), (63, .goto 11, 3), (66, .aload_n 0, 1), (67, .aload_n 1, 1), (68, .iload_n 3, 1), (69, .iload 4, 2), (71, .invokevirtual 68, 3), (74, .aload_n 1, 1), (75, .iload_n 3, 1), (76, .iload 4, 2), (78, .aload_n 0, 1), (79, .getfield 14, 3), (82, .invokevirtual 71, 3), (85, .ifCond .eq 7, 3), (88, .iconst 1, 1), (89, .goto 5, 3), (92, .bipush (-3), 2), (94, .ireturn, 1)]
def pm_mm65 : pm_M := (⟨"LambdaShelf$Turner", "turn", "(LLambdaShelf$Code;I)I"⟩, prog_8_method_4_code, 5, (Option.some FieldType.int), 2, 6, false, 675, pm_cc65)
def pm_cc66 : List (Nat × Instr × Nat) := [(0, .iload_n 2, 1), (1, .tableswitch 45 0 2 #[27, 33, 39], 27), (28, .aload_n 0, 1), (29, .aload_n 1, 1), (30, .invokevirtual 32, 3), (33, .ireturn, 1), (34, .aload_n 0, 1), (35, .aload_n 1, 1), (36, .invokevirtual 36, 3), (39, .ireturn, 1), (40, .aload_n 0, 1), (41, .aload_n 1, 1), (42, .invokevirtual 39, 3), (45, .ireturn, 1), (46, .aload_n 0, 1), (47, .aload_n 1, 1), (48, .invokevirtual 42, 3), (51, .ireturn, 1)]
def pm_mm66 : pm_M := (⟨"LambdaShelf$Turner", "place", "(LLambdaShelf$Code;I)I"⟩, prog_8_method_3_code, 3, (Option.some FieldType.int), 2, 6, false, 679, pm_cc66)
def pm_cc67 : List (Nat × Instr × Nat) := [(0, .iconst 0, 1), (1, .istore_n 2, 1), (2, .iload_n 2, 1), (3, .aload_n 1, 1), (4, .getfield 24, 3), (7, .if_icmp .ge 20, 3), (10, .aload_n 1, 1), (11, .iload_n 2, 1), (12, .invokestatic 28, 3), (15, .iconst (-1), 1), (16, .if_icmp .eq 5, 3), (19, .iload_n 2, 1), (20, .ireturn, 1), (21, .iinc 2 1, 3), (24, .goto (-22), 3), (27, .bipush (-4), 2), (29, .ireturn, 1)]
def pm_mm67 : pm_M := (⟨"LambdaShelf$Turner", "firstPlace", "(LLambdaShelf$Code;)I"⟩, prog_8_method_5_code, 3, (Option.some FieldType.int), 1, 6, false, 683, pm_cc67)
def pm_cc68 : List (Nat × Instr × Nat) := [(0, .aload_n 0, 1), (1, .iload_n 1, 1), (2, .invokevirtual 75, 3), (5, .ifCond .eq 5, 3), (8, .iconst (-1), 1), (9, .ireturn, 1), (10, .aload_n 0, 1), (11, .iload_n 1, 1), (12, .iconst 1, 1), (13, .iadd, 1), (14, .invokevirtual 75, 3), (17, .istore_n 2, 1), (18, .iload_n 2, 1), (19, .iconst 1, 1), (20, .if_icmp .eq 8, 3), (23, .iload_n 2, 1), (24, .iconst 4, 1), (25, .if_icmp .ne 5, 3), (28, .iload_n 2, 1), (29, .ireturn, 1), (30, .iload_n 2, 1), (31, .ifCond .eq 5, 3), (34, .iconst (-1), 1), (35, .ireturn, 1), (36, .aload_n 0, 1), (37, .iload_n 1, 1), (38, .iconst 2, 1), (39, .iadd, 1), (40, .invokevirtual 75, 3), (43, .istore_n 3, 1), (44, .iload_n 3, 1), (45, .iconst 3, 1), (46, .if_icmp .ne 5, 3), (49, .iconst 3, 1), (50, .ireturn, 1), (51, .iload_n 3, 1), (52, .ifCond .ne 18, 3), (55, .aload_n 0, 1), (56, .iload_n 1, 1), (57, .iconst 3, 1), (58, .iadd, 1), (59, .invokevirtual 75, 3), (62, .iconst 2, 1), (63, .if_icmp .ne 7, 3), (66, .iconst 2, 1), (67, .goto 4, 3), (70, .iconst (-1), 1), (71, .ireturn, 1)]
def pm_mm68 : pm_M := (⟨"LambdaShelf$Turner", "ruleAt", "(LLambdaShelf$Code;I)I"⟩, prog_8_method_11_code, 4, (Option.some FieldType.int), 2, 6, false, 686, pm_cc68)
def pm_cc69 : List (Nat × Instr × Nat) := [(0, .aload_n 0, 1), (1, .getfield 20, 3), (4, .aload_n 1, 1), (5, .iconst 0, 1), (6, .aload_n 1, 1), (7, .getfield 24, 3), (10, .invokevirtual 52, 3), (13, .bipush (-4), 2), (15, .istore_n 2, 1), (16, .iconst 0, 1), (17, .istore_n 3, 1), (18, .iload_n 3, 1), (19, .aload_n 1, 1), (20, .getfield 24, 3), (23, .if_icmp .ge 38, 3), (26, .aload_n 1, 1), (27, .iload_n 3, 1), (28, .invokestatic 28, 3), (31, .iconst (-1), 1), (32, .if_icmp .eq 23, 3), (35, .iload_n 2, 1), (36, .ifCond .lt 17, 3), (39, .iload_n 3, 1), (40, .aload_n 0, 1), (41, .getfield 20, 3), (44, .iload_n 2, 1), (45, .invokevirtual 61, 3), (48, .if_icmp .lt 5, 3), (51, .iload_n 2, 1), (52, .ireturn, 1), (53, .iload_n 3, 1), (54, .istore_n 2, 1), (55, .iinc 3 1, 3), (58, .goto (-40), 3), (61, .iload_n 2, 1), (62, .ireturn, 1)]
def pm_mm69 : pm_M := (⟨"LambdaShelf$Turner", "innerPlace", "(LLambdaShelf$Code;)I"⟩, prog_8_method_6_code, 4, (Option.some FieldType.int), 1, 6, false, 691, pm_cc69)
def pm_cc70 : List (Nat × Instr × Nat) := [(0, .iload_n 3, 1), (1, .aload_n 0, 1), (2, .getfield 11, 3), (5, .arraylength, 1), (6, .invokestatic 20, 3), (9, .iconst 1, 1), (10, .isub, 1), (11, .istore 4, 2), (13, .iload 4, 2), (15, .istore 5, 2), (17, .iload 5, 2), (19, .iload_n 2, 1), (20, .iconst 0, 1), (21, .invokestatic 26, 3), (24, .if_icmp .lt 28, 3), (27, .aload_n 0, 1), (28, .getfield 11, 3), (31, .iload 5, 2), (33, .aload_n 0, 1), (34, .aload_n 1, 1), (35, .iload 5, 2), (37, .invokevirtual 29, 3), (40, .iload 5, 2), (42, .invokevirtual 35, 3), (45, .iastore, 1), (46, .iinc 5 (-1), 3), (49, .goto (-32), 3), (52, .aload_n 0, 1), (53, .iload_n 2, 1), (54, .iconst 0, 1), (55, .invokevirtual 38, 3), (58, .iload_n 2, 1), (59, .istore 5, 2), (61, .iload 5, 2), (63, .iload 4, 2), (65, .if_icmp .gt 21, 3), (68, .aload_n 0, 1), (69, .aload_n 1, 1), (70, .iload 5, 2), (72, .invokevirtual 29, 3), (75, .iload 5, 2), (77, .invokevirtual 42, 3), (80, .iinc 5 1, 3), (83, .goto (-22), 3), (86, .return_, 1)]
def pm_mm70 : pm_M := (⟨"LambdaShelf$Shape", "measure", "(LLambdaShelf$Code;II)V"⟩, prog_5_method_2_code, 6, (Option.none : Option FieldType), 3, 3, false, 695, pm_cc70)
def pm_cc71 : List (Nat × Instr × Nat) := [(0, .iload_n 1, 1), (1, .iconst 1, 1), (2, .if_icmp .ne 11, 3), (5, .aload_n 0, 1), (6, .iload_n 2, 1), (7, .iconst 1, 1), (8, .iadd, 1), (9, .invokevirtual 56, 3), (12, .ireturn, 1), (13, .iload_n 1, 1), (14, .ifCond .ne 17, 3), (17, .aload_n 0, 1), (18, .aload_n 0, 1), (19, .iload_n 2, 1), (20, .iconst 1, 1), (21, .iadd, 1), (22, .invokevirtual 56, 3), (25, .invokevirtual 56, 3), (28, .goto 6, 3), (31, .iload_n 2, 1), (32, .iconst 1, 1), (33, .iadd, 1), (34, .ireturn, 1)]
def pm_mm71 : pm_M := (⟨"LambdaShelf$Shape", "endBy", "(II)I"⟩, prog_5_method_7_code, 3, (Option.some FieldType.int), 2, 3, false, 702, pm_cc71)
def pm_cc72 : List (Nat × Instr × Nat) := [(0, .iload_n 1, 1), (1, .ifCond .lt 21, 3), (4, .iload_n 1, 1), (5, .aload_n 0, 1), (6, .getfield 11, 3), (9, .arraylength, 1), (10, .if_icmp .ge 12, 3), (13, .aload_n 0, 1), (14, .getfield 11, 3), (17, .iload_n 1, 1), (18, .iaload, 1), (19, .goto 4, 3), (22, .iload_n 1, 1), (23, .ireturn, 1)]
def pm_mm72 : pm_M := (⟨"LambdaShelf$Shape", "endOf", "(I)I"⟩, prog_5_method_3_code, 2, (Option.some FieldType.int), 1, 3, false, 706, pm_cc72)
def pm_cc73 : List (Nat × Instr × Nat) := [(0, .iload_n 1, 1), (1, .ifCond .lt 19, 3), (4, .iload_n 1, 1), (5, .aload_n 0, 1), (6, .getfield 17, 3), (9, .arraylength, 1), (10, .if_icmp .ge 10, 3), (13, .aload_n 0, 1), (14, .getfield 17, 3), (17, .iload_n 1, 1), (18, .iload_n 2, 1), (19, .iastore, 1), (20, .return_, 1)]
def pm_mm73 : pm_M := (⟨"LambdaShelf$Shape", "putDepth", "(II)V"⟩, prog_5_method_9_code, 3, (Option.none : Option FieldType), 2, 3, false, 710, pm_cc73)
def pm_cc74 : List (Nat × Instr × Nat) := [(0, .iload_n 1, 1), (1, .iconst 1, 1), (2, .if_icmp .ne 20, 3), (5, .aload_n 0, 1), (6, .iload_n 2, 1), (7, .iconst 1, 1), (8, .iadd, 1), (9, .aload_n 0, 1), (10, .iload_n 2, 1), (11, .invokevirtual 45, 3), (14, .iconst 1, 1), (15, .iadd, 1), (16, .invokevirtual 38, 3), (19, .goto 35, 3), (22, .iload_n 1, 1), (23, .ifCond .ne 31, 3), (26, .aload_n 0, 1), (27, .iload_n 2, 1), (28, .iconst 1, 1), (29, .iadd, 1), (30, .aload_n 0, 1), (31, .iload_n 2, 1), (32, .invokevirtual 45, 3), (35, .invokevirtual 38, 3), (38, .aload_n 0, 1), (39, .aload_n 0, 1), (40, .iload_n 2, 1), (41, .iconst 1, 1), (42, .iadd, 1), (43, .invokevirtual 56, 3), (46, .aload_n 0, 1), (47, .iload_n 2, 1), (48, .invokevirtual 45, 3), (51, .invokevirtual 38, 3), (54, .return_, 1)]
def pm_mm74 : pm_M := (⟨"LambdaShelf$Shape", "spreadDepth", "(II)V"⟩, prog_5_method_8_code, 3, (Option.none : Option FieldType), 2, 3, false, 714, pm_cc74)
def pm_cc75 : List (Nat × Instr × Nat) := [(0, .iload_n 1, 1), (1, .ifCond .lt 21, 3), (4, .iload_n 1, 1), (5, .aload_n 0, 1), (6, .getfield 17, 3), (9, .arraylength, 1), (10, .if_icmp .ge 12, 3), (13, .aload_n 0, 1), (14, .getfield 17, 3), (17, .iload_n 1, 1), (18, .iaload, 1), (19, .goto 4, 3), (22, .iconst 0, 1), (23, .ireturn, 1)]
def pm_mm75 : pm_M := (⟨"LambdaShelf$Shape", "depthOf", "(I)I"⟩, prog_5_method_4_code, 2, (Option.some FieldType.int), 1, 3, false, 718, pm_cc75)
def pm_cc76 : List (Nat × Instr × Nat) := [(0, .iconst 0, 1), (1, .istore_n 2, 1), (2, .iload_n 2, 1), (3, .aload_n 1, 1), (4, .getfield 24, 3), (7, .if_icmp .ge 28, 3), (10, .aload_n 1, 1), (11, .iload_n 2, 1), (12, .invokevirtual 75, 3), (15, .ifCond .ne 20, 3), (18, .aload_n 1, 1), (19, .iload_n 2, 1), (20, .invokestatic 28, 3), (23, .iconst (-1), 1), (24, .if_icmp .eq 5, 3), (27, .iload_n 2, 1), (28, .ireturn, 1), (29, .iinc 2 1, 3), (32, .goto (-30), 3), (35, .bipush (-4), 2), (37, .ireturn, 1)]
def pm_mm76 : pm_M := (⟨"LambdaShelf$Turner", "headPlace", "(LLambdaShelf$Code;)I"⟩, prog_8_method_7_code, 3, (Option.some FieldType.int), 1, 6, false, 723, pm_cc76)
def pm_cc77 : List (Nat × Instr × Nat) := [(0, .aload_n 0, 1), (1, .getfield 20, 3), (4, .aload_n 1, 1), (5, .iconst 0, 1), (6, .aload_n 1, 1), (7, .getfield 24, 3), (10, .invokevirtual 52, 3), (13, .iconst 0, 1), (14, .istore_n 2, 1), (15, .iload_n 2, 1), (16, .aload_n 1, 1), (17, .getfield 24, 3), (20, .if_icmp .ge 20, 3), (23, .aload_n 0, 1), (24, .aload_n 1, 1), (25, .iload_n 2, 1), (26, .invokevirtual 78, 3), (29, .ifCond .eq 5, 3), (32, .iload_n 2, 1), (33, .ireturn, 1), (34, .iinc 2 1, 3), (37, .goto (-22), 3), (40, .bipush (-4), 2), (42, .ireturn, 1)]
def pm_mm77 : pm_M := (⟨"LambdaShelf$Turner", "shorterPlace", "(LLambdaShelf$Code;)I"⟩, prog_8_method_8_code, 3, (Option.some FieldType.int), 1, 6, false, 727, pm_cc77)
def pm_cc78 : List (Nat × Instr × Nat) := [(0, .aload_n 1, 1), (1, .iload_n 2, 1), (2, .invokevirtual 75, 3), (5, .iconst 1, 1), (6, .if_icmp .ne 13, 3), (9, .aload_n 1, 1), (10, .iload_n 2, 1), (11, .iconst 1, 1), (12, .iadd, 1), (13, .invokevirtual 75, 3), (16, .ifCond .eq 5, 3), (19, .iconst 0, 1), (20, .ireturn, 1), (21, .aload_n 0, 1), (22, .getfield 20, 3), (25, .iload_n 2, 1), (26, .iconst 2, 1), (27, .iadd, 1), (28, .invokevirtual 61, 3), (31, .istore_n 3, 1), (32, .aload_n 1, 1), (33, .iload_n 3, 1), (34, .invokevirtual 75, 3), (37, .bipush 10, 2), (39, .if_icmp .ne 27, 3), (42, .aload_n 0, 1), (43, .aload_n 1, 1), (44, .iload_n 2, 1), (45, .iconst 2, 1), (46, .iadd, 1), (47, .iload_n 3, 1), (48, .aload_n 0, 1), (49, .getfield 20, 3), (52, .iload_n 2, 1), (53, .invokevirtual 82, 3), (56, .invokevirtual 85, 3), (59, .ifCond .ne 7, 3), (62, .iconst 1, 1), (63, .goto 4, 3), (66, .iconst 0, 1), (67, .ireturn, 1)]
def pm_mm78 : pm_M := (⟨"LambdaShelf$Turner", "isShortened", "(LLambdaShelf$Code;I)Z"⟩, prog_8_method_9_code, 4, (Option.some FieldType.boolean), 2, 6, false, 731, pm_cc78)
def pm_cc79 : List (Nat × Instr × Nat) := [(0, .iload_n 2, 1), (1, .istore 5, 2), (3, .iload 5, 2), (5, .iload_n 3, 1), (6, .if_icmp .ge 42, 3), (9, .aload_n 1, 1), (10, .iload 5, 2), (12, .invokevirtual 75, 3), (15, .istore 6, 2), (17, .iload 6, 2), (19, .bipush 10, 2), (21, .if_icmp .lt 21, 3), (24, .aload_n 0, 1), (25, .getfield 20, 3), (28, .iload 6, 2), (30, .iload 5, 2), (32, .invokevirtual 89, 3), (35, .iload 4, 2), (37, .if_icmp .ne 5, 3), (40, .iconst 1, 1), (41, .ireturn, 1), (42, .iinc 5 1, 3), (45, .goto (-42), 3), (48, .iconst 0, 1), (49, .ireturn, 1)]
def pm_mm79 : pm_M := (⟨"LambdaShelf$Turner", "isBoundIn", "(LLambdaShelf$Code;III)Z"⟩, prog_8_method_10_code, 7, (Option.some FieldType.boolean), 4, 6, false, 736, pm_cc79)
def pm_cc80 : List (Nat × Instr × Nat) := [(0, .aload_n 0, 1), (1, .iload_n 2, 1), (2, .invokevirtual 45, 3), (5, .iconst 1, 1), (6, .isub, 1), (7, .iload_n 1, 1), (8, .bipush 10, 2), (10, .isub, 1), (11, .isub, 1), (12, .ireturn, 1)]
def pm_mm80 : pm_M := (⟨"LambdaShelf$Shape", "binderDepth", "(II)I"⟩, prog_5_method_5_code, 3, (Option.some FieldType.int), 2, 3, false, 740, pm_cc80)
def pm_cc81 : List (Nat × Instr × Nat) := [(0, .iconst 1, 1), (1, .istore_n 2, 1), (2, .iload_n 1, 1), (3, .istore_n 3, 1), (4, .iload_n 2, 1), (5, .ifCond .le 44, 3), (8, .iload_n 3, 1), (9, .aload_n 0, 1), (10, .getfield 21, 3), (13, .if_icmp .ge 36, 3), (16, .aload_n 0, 1), (17, .iload_n 3, 1), (18, .invokevirtual 39, 3), (21, .istore 4, 2), (23, .iload 4, 2), (25, .ifCond .ne 9, 3), (28, .iinc 2 1, 3), (31, .goto 12, 3), (34, .iload 4, 2), (36, .iconst 1, 1), (37, .if_icmp .eq 6, 3), (40, .iinc 2 (-1), 3), (43, .iinc 3 1, 3), (46, .goto (-42), 3), (49, .iload_n 3, 1), (50, .ireturn, 1)]
def pm_mm81 : pm_M := (⟨"LambdaShelf$Code", "endFrom", "(I)I"⟩, prog_3_method_10_code, 5, (Option.some FieldType.int), 1, 1, false, 744, pm_cc81)
def pm_cc82 : List (Nat × Instr × Nat) := [(0, .iload_n 2, 1), (1, .istore 5, 2), (3, .iload 5, 2), (5, .iload_n 3, 1), (6, .if_icmp .ge 99, 3), (9, .aload_n 0, 1), (10, .getfield 14, 3), (13, .getfield 102, 3), (16, .ifCond .ne 89, 3), (19, .aload_n 1, 1), (20, .iload 5, 2), (22, .invokevirtual 75, 3), (25, .istore 6, 2), (27, .iload 6, 2), (29, .bipush 10, 2), (31, .if_icmp .lt 17, 3), (34, .aload_n 0, 1), (35, .getfield 20, 3), (38, .iload 6, 2), (40, .iload 5, 2), (42, .invokevirtual 89, 3), (45, .goto 4, 3), (48, .iconst 1, 1), (49, .istore 7, 2), (51, .iload 7, 2), (53, .ifCond .ne 25, 3), (56, .aload_n 0, 1), (57, .aload_n 1, 1), (58, .iload_n 3, 1), (59, .iload 4, 2), (61, .aload_n 0, 1), (62, .getfield 20, 3), (65, .iload 5, 2), (67, .invokevirtual 82, 3), (70, .iconst 1, 1), (71, .isub, 1), (72, .invokevirtual 106, 3), (75, .goto 24, 3), (78, .aload_n 0, 1), (79, .getfield 14, 3), (82, .iload 7, 2), (84, .ifCond .ge 10, 3), (87, .iload 6, 2), (89, .iconst 1, 1), (90, .isub, 1), (91, .goto 5, 3), (94, .iload 6, 2), (96, .invokevirtual 99, 3), (99, .iinc 5 1, 3), (102, .goto (-99), 3), (105, .return_, 1)]
def pm_mm82 : pm_M := (⟨"LambdaShelf$Turner", "putBody", "(LLambdaShelf$Code;III)V"⟩, prog_8_method_14_code, 8, (Option.none : Option FieldType), 4, 6, false, 749, pm_cc82)
def pm_cc83 : List (Nat × Instr × Nat) := [(0, .iload_n 2, 1), (1, .istore 5, 2), (3, .iload 5, 2), (5, .iload_n 3, 1), (6, .if_icmp .ge 77, 3), (9, .aload_n 0, 1), (10, .getfield 14, 3), (13, .getfield 102, 3), (16, .ifCond .ne 67, 3), (19, .aload_n 1, 1), (20, .iload 5, 2), (22, .invokevirtual 75, 3), (25, .istore 6, 2), (27, .iload 6, 2), (29, .bipush 10, 2), (31, .if_icmp .lt 21, 3), (34, .aload_n 0, 1), (35, .getfield 20, 3), (38, .iload 6, 2), (40, .iload 5, 2), (42, .invokevirtual 89, 3), (45, .ifCond .ge 7, 3), (48, .iconst 1, 1), (49, .goto 4, 3), (52, .iconst 0, 1), (53, .istore 7, 2), (55, .aload_n 0, 1), (56, .getfield 14, 3), (59, .iload 7, 2), (61, .ifCond .eq 11, 3), (64, .iload 6, 2), (66, .iload 4, 2), (68, .iadd, 1), (69, .goto 5, 3), (72, .iload 6, 2), (74, .invokevirtual 99, 3), (77, .iinc 5 1, 3), (80, .goto (-77), 3), (83, .return_, 1)]
def pm_mm83 : pm_M := (⟨"LambdaShelf$Turner", "putRaised", "(LLambdaShelf$Code;III)V"⟩, prog_8_method_15_code, 8, (Option.none : Option FieldType), 4, 6, false, 753, pm_cc83)
def pm_cc84 : List (Nat × Instr × Nat) := [(0, .aload_n 1, 1), (1, .iload_n 2, 1), (2, .invokestatic 28, 3), (5, .tableswitch 92 1 4 #[31, 92, 68, 53], 31), (36, .aload_n 0, 1), (37, .aload_n 1, 1), (38, .iload_n 2, 1), (39, .iconst 2, 1), (40, .iadd, 1), (41, .aload_n 0, 1), (42, .getfield 20, 3), (45, .iload_n 2, 1), (46, .iconst 2, 1), (47, .iadd, 1), (48, .invokevirtual 61, 3), (51, .iload_n 3, 1), (52, .invokevirtual 64, 3), (55, .goto 51, 3), (58, .aload_n 0, 1), (59, .getfield 14, 3), (62, .aload_n 1, 1), (63, .iload_n 2, 1), (64, .iconst 2, 1), (65, .iadd, 1), (66, .iload_n 3, 1), (67, .invokevirtual 93, 3), (70, .goto 36, 3), (73, .aload_n 0, 1), (74, .getfield 14, 3), (77, .aload_n 1, 1), (78, .iload_n 2, 1), (79, .iconst 3, 1), (80, .iadd, 1), (81, .aload_n 0, 1), (82, .getfield 20, 3), (85, .iload_n 2, 1), (86, .iconst 3, 1), (87, .iadd, 1), (88, .invokevirtual 61, 3), (91, .invokevirtual 93, 3), (94, .goto 12, 3), (97, .aload_n 0, 1), (98, .aload_n 1, 1), (99, .iload_n 2, 1), (100, .iconst 4, 1), (101, .iadd, 1), (102, .iload_n 3, 1), (103, .invokevirtual 96, 3), (106, .return_, 1)]
def pm_mm84 : pm_M := (⟨"LambdaShelf$Turner", "putTurned", "(LLambdaShelf$Code;II)V"⟩, prog_8_method_12_code, 4, (Option.none : Option FieldType), 3, 6, false, 758, pm_cc84)
def pm_cc85 : List (Nat × Instr × Nat) := [(0, .aload_n 0, 1), (1, .getfield 20, 3), (4, .iload_n 2, 1), (5, .invokevirtual 61, 3), (8, .istore 4, 2), (10, .aload_n 0, 1), (11, .getfield 20, 3), (14, .iload 4, 2), (16, .invokevirtual 61, 3), (19, .istore 5, 2), (21, .aload_n 0, 1), (22, .getfield 14, 3), (25, .iconst 0, 1), (26, .invokevirtual 99, 3), (29, .aload_n 0, 1), (30, .getfield 14, 3), (33, .iconst 0, 1), (34, .invokevirtual 99, 3), (37, .aload_n 0, 1), (38, .getfield 14, 3), (41, .aload_n 1, 1), (42, .iload_n 2, 1), (43, .iload 4, 2), (45, .invokevirtual 93, 3), (48, .aload_n 0, 1), (49, .getfield 14, 3), (52, .aload_n 1, 1), (53, .iload 5, 2), (55, .iload_n 3, 1), (56, .invokevirtual 93, 3), (59, .aload_n 0, 1), (60, .getfield 14, 3), (63, .iconst 0, 1), (64, .invokevirtual 99, 3), (67, .aload_n 0, 1), (68, .getfield 14, 3), (71, .aload_n 1, 1), (72, .iload 4, 2), (74, .iload 5, 2), (76, .invokevirtual 93, 3), (79, .aload_n 0, 1), (80, .getfield 14, 3), (83, .aload_n 1, 1), (84, .iload 5, 2), (86, .iload_n 3, 1), (87, .invokevirtual 93, 3), (90, .return_, 1)]
def pm_mm85 : pm_M := (⟨"LambdaShelf$Turner", "putShared", "(LLambdaShelf$Code;II)V"⟩, prog_8_method_13_code, 6, (Option.none : Option FieldType), 3, 6, false, 763, pm_cc85)
def pm_cc86 : List (Nat × Instr × Nat) := [(0, .iload_n 1, 1), (1, .ifCond .lt 20, 3), (4, .iload_n 1, 1), (5, .iload_n 2, 1), (6, .if_icmp .gt 15, 3), (9, .iload_n 2, 1), (10, .aload_n 0, 1), (11, .getfield 21, 3), (14, .if_icmp .gt 7, 3), (17, .iconst 1, 1), (18, .goto 4, 3), (21, .iconst 0, 1), (22, .istore 4, 2), (24, .aload_n 0, 1), (25, .getfield 21, 3), (28, .iload_n 2, 1), (29, .iload_n 1, 1), (30, .isub, 1), (31, .isub, 1), (32, .aload_n 3, 1), (33, .getfield 21, 3), (36, .iadd, 1), (37, .istore 5, 2), (39, .iload 4, 2), (41, .ifCond .eq 20, 3), (44, .aload_n 3, 1), (45, .getfield 25, 3), (48, .ifCond .ne 13, 3), (51, .iload 5, 2), (53, .aload_n 0, 1), (54, .getfield 15, 3), (57, .arraylength, 1), (58, .if_icmp .le 5, 3), (61, .iconst 0, 1), (62, .ireturn, 1), (63, .aload_n 0, 1), (64, .getfield 15, 3), (67, .iload_n 2, 1), (68, .aload_n 0, 1), (69, .getfield 15, 3), (72, .iload_n 1, 1), (73, .aload_n 3, 1), (74, .getfield 21, 3), (77, .iadd, 1), (78, .aload_n 0, 1), (79, .getfield 21, 3), (82, .iload_n 2, 1), (83, .isub, 1), (84, .invokestatic 29, 3), (87, .aload_n 3, 1), (88, .getfield 15, 3), (91, .iconst 0, 1), (92, .aload_n 0, 1), (93, .getfield 15, 3), (96, .iload_n 1, 1), (97, .aload_n 3, 1), (98, .getfield 21, 3), (101, .invokestatic 29, 3), (104, .aload_n 0, 1), (105, .iload 5, 2), (107, .putfield 21, 3), (110, .iconst 1, 1), (111, .ireturn, 1)]
def pm_mm86 : pm_M := (⟨"LambdaShelf$Code", "replacePart", "(IILLambdaShelf$Code;)Z"⟩, prog_3_method_7_code, 6, (Option.some FieldType.boolean), 3, 1, false, 767, pm_cc86)
def pm_cc87 : List (Nat × Instr × Nat) := [(0, .aload_n 0, 1), (1, .iload_n 1, 1), (2, .invokevirtual 86, 3), (5, .astore 4, 2), (7, .aload 4, 2), (9, .ifnull 17, 3), (12, .iload_n 2, 1), (13, .invokestatic 114, 3), (16, .ifCond .eq 10, 3), (19, .iload_n 3, 1), (20, .invokestatic 121, 3), (23, .ifCond .ne 5, 3), (26, .iconst (-1), 1), (27, .ireturn, 1), (28, .aload_n 0, 1), (29, .iconst 0, 1), (30, .putfield 124, 3), (33, .aload_n 0, 1), (34, .iconst 1, 1), (35, .putfield 127, 3), (38, .iconst 0, 1), (39, .istore 5, 2), (41, .iload 5, 2), (43, .iload_n 3, 1), (44, .if_icmp .ge 62, 3), (47, .aload_n 0, 1), (48, .getfield 57, 3), (51, .aload 4, 2), (53, .iload_n 2, 1), (54, .invokevirtual 118, 3), (57, .istore 6, 2), (59, .iload 6, 2), (61, .iconst 1, 1), (62, .if_icmp .eq 22, 3), (65, .aload_n 0, 1), (66, .iload 6, 2), (68, .bipush (-3), 2), (70, .if_icmp .ne 7, 3), (73, .iconst 2, 1), (74, .goto 4, 3), (77, .iconst 0, 1), (78, .putfield 127, 3), (81, .iload 5, 2), (83, .ireturn, 1), (84, .aload_n 0, 1), (85, .aload_n 0, 1), (86, .getfield 124, 3), (89, .aload 4, 2), (91, .getfield 90, 3), (94, .invokestatic 130, 3), (97, .putfield 124, 3), (100, .iinc 5 1, 3), (103, .goto (-62), 3), (106, .iload_n 3, 1), (107, .ireturn, 1)]
def pm_mm87 : pm_M := (⟨"LambdaShelf", "steps", "(III)I"⟩, prog_1_method_13_code, 7, (Option.some FieldType.int), 3, 8, false, 771, pm_cc87)
def pm_cc88 : List (Nat × Instr × Nat) := [(0, .iload_n 0, 1), (1, .ifCond .lt 14, 3), (4, .iload_n 0, 1), (5, .sipush 200, 3), (8, .if_icmp .gt 7, 3), (11, .iconst 1, 1), (12, .goto 4, 3), (15, .iconst 0, 1), (16, .ireturn, 1)]
def pm_mm88 : pm_M := (⟨"LambdaShelf", "isFuel", "(I)Z"⟩, prog_1_method_31_code, 1, (Option.some FieldType.boolean), 1, 8, false, 774, pm_cc88)
def pm_cc89 : List (Nat × Instr × Nat) := [(0, .iload_n 1, 1), (1, .lookupswitch 37 #[(0, 27), (1, 32)], 27), (28, .aload_n 0, 1), (29, .getfield 127, 3), (32, .ireturn, 1), (33, .aload_n 0, 1), (34, .getfield 124, 3), (37, .ireturn, 1), (38, .iconst (-1), 1), (39, .ireturn, 1)]
def pm_mm89 : pm_M := (⟨"LambdaShelf", "told", "(I)I"⟩, prog_1_method_14_code, 2, (Option.some FieldType.int), 1, 8, false, 779, pm_cc89)
def pm_cc90 : List (Nat × Instr × Nat) := [(0, .aload_n 0, 1), (1, .iload_n 1, 1), (2, .invokevirtual 86, 3), (5, .astore_n 3, 1), (6, .aload_n 3, 1), (7, .ifnull 10, 3), (10, .iload_n 2, 1), (11, .invokestatic 114, 3), (14, .ifCond .ne 7, 3), (17, .iconst (-1), 1), (18, .goto 12, 3), (21, .aload_n 0, 1), (22, .getfield 57, 3), (25, .aload_n 3, 1), (26, .iload_n 2, 1), (27, .invokevirtual 136, 3), (30, .ireturn, 1)]
def pm_mm90 : pm_M := (⟨"LambdaShelf", "redex", "(II)I"⟩, prog_1_method_15_code, 4, (Option.some FieldType.int), 2, 8, false, 783, pm_cc90)
def pm_cc91 : List (Nat × Instr × Nat) := [(0, .aload_n 0, 1), (1, .iload_n 1, 1), (2, .invokevirtual 86, 3), (5, .astore_n 2, 1), (6, .aload_n 2, 1), (7, .ifnonnull 7, 3), (10, .iconst (-1), 1), (11, .goto 11, 3), (14, .aload_n 0, 1), (15, .getfield 57, 3), (18, .aload_n 2, 1), (19, .invokevirtual 139, 3), (22, .ireturn, 1)]
def pm_mm91 : pm_M := (⟨"LambdaShelf", "redexes", "(I)I"⟩, prog_1_method_16_code, 3, (Option.some FieldType.int), 1, 8, false, 788, pm_cc91)
def pm_cc92 : List (Nat × Instr × Nat) := [(0, .iconst 0, 1), (1, .istore_n 2, 1), (2, .iconst 0, 1), (3, .istore_n 3, 1), (4, .iload_n 3, 1), (5, .aload_n 1, 1), (6, .getfield 24, 3), (9, .if_icmp .ge 21, 3), (12, .aload_n 1, 1), (13, .iload_n 3, 1), (14, .invokestatic 28, 3), (17, .iconst (-1), 1), (18, .if_icmp .eq 6, 3), (21, .iinc 2 1, 3), (24, .iinc 3 1, 3), (27, .goto (-23), 3), (30, .iload_n 2, 1), (31, .ireturn, 1)]
def pm_mm92 : pm_M := (⟨"LambdaShelf$Turner", "howMany", "(LLambdaShelf$Code;)I"⟩, prog_8_method_2_code, 4, (Option.some FieldType.int), 1, 6, false, 792, pm_cc92)
def pm_cc93 : List (Nat × Instr × Nat) := [(0, .aload_n 0, 1), (1, .iload_n 1, 1), (2, .invokevirtual 86, 3), (5, .astore_n 2, 1), (6, .aload_n 2, 1), (7, .ifnonnull 5, 3), (10, .iconst (-1), 1), (11, .ireturn, 1), (12, .aload_n 0, 1), (13, .invokevirtual 68, 3), (16, .astore_n 3, 1), (17, .aload_n 3, 1), (18, .ifnonnull 6, 3), (21, .bipush (-3), 2), (23, .ireturn, 1), (24, .aload_n 0, 1), (25, .getfield 142, 3), (28, .ifnonnull 18, 3), (31, .aload_n 0, 1), (32, .new 146, 3), (35, .dup, 1), (36, .aload_n 0, 1), (37, .getfield 32, 3), (40, .invokespecial 148, 3), (43, .putfield 142, 3), (46, .aload_n 0, 1), (47, .getfield 142, 3), (50, .aload_n 2, 1), (51, .aload_n 3, 1), (52, .invokevirtual 149, 3), (55, .ifCond .eq 10, 3), (58, .aload_n 0, 1), (59, .invokevirtual 79, 3), (62, .goto 5, 3), (65, .bipush (-3), 2), (67, .ireturn, 1)]
def pm_mm93 : pm_M := (⟨"LambdaShelf", "abstracted", "(I)I"⟩, prog_1_method_17_code, 4, (Option.some FieldType.int), 1, 8, false, 796, pm_cc93)
def pm_cc94 : List (Nat × Instr × Nat) := [(0, .aload_n 0, 1), (1, .invokespecial 3, 3), (4, .aload_n 0, 1), (5, .sipush 1500, 3), (8, .newarray .int, 2), (10, .putfield 11, 3), (13, .aload_n 0, 1), (14, .sipush 503, 3), (17, .newarray .int, 2), (19, .putfield 15, 3), (22, .aload_n 0, 1), (23, .new 18, 3), (26, .dup, 1), (27, .sipush 502, 3), (30, .invokespecial 20, 3), (33, .putfield 23, 3), (36, .aload_n 0, 1), (37, .new 18, 3), (40, .dup, 1), (41, .sipush 500, 3), (44, .invokespecial 20, 3), (47, .putfield 27, 3), (50, .aload_n 0, 1), (51, .aload_n 1, 1), (52, .putfield 30, 3), (55, .return_, 1)]
def pm_mm94 : pm_M := (⟨"LambdaShelf$Abstracter", "<init>", "(LLambdaShelf$Shape;)V"⟩, prog_2_method_1_code, 2, (Option.none : Option FieldType), 1, 0, true, 801, pm_cc94)
def pm_cc95 : List (Nat × Instr × Nat) := [(0, .aload_n 0, 1), (1, .sipush 1500, 3), (4, .putfield 34, 3), (7, .iconst 1, 1), (8, .istore_n 3, 1), (9, .aload_n 1, 1), (10, .getfield 38, 3), (13, .iconst 1, 1), (14, .isub, 1), (15, .istore 4, 2), (17, .iload 4, 2), (19, .ifCond .lt 41, 3), (22, .iload_n 3, 1), (23, .ifCond .eq 37, 3), (26, .aload_n 1, 1), (27, .iload 4, 2), (29, .invokevirtual 41, 3), (32, .istore 5, 2), (34, .iload 5, 2), (36, .iconst 1, 1), (37, .if_icmp .ne 10, 3), (40, .aload_n 0, 1), (41, .invokevirtual 45, 3), (44, .goto 9, 3), (47, .aload_n 0, 1), (48, .iload 5, 2), (50, .invokevirtual 49, 3), (53, .istore_n 3, 1), (54, .iinc 4 (-1), 3), (57, .goto (-40), 3), (60, .aload_n 0, 1), (61, .getfield 34, 3), (64, .istore 4, 2), (66, .iload 4, 2), (68, .sipush 1500, 3), (71, .if_icmp .ge 30, 3), (74, .iload_n 3, 1), (75, .ifCond .eq 26, 3), (78, .aload_n 2, 1), (79, .getfield 53, 3), (82, .ifCond .ne 19, 3), (85, .aload_n 2, 1), (86, .aload_n 0, 1), (87, .iload 4, 2), (89, .invokevirtual 57, 3), (92, .invokevirtual 60, 3), (95, .iinc 4 1, 3), (98, .goto (-32), 3), (101, .iload_n 3, 1), (102, .ifCond .eq 14, 3), (105, .aload_n 2, 1), (106, .getfield 53, 3), (109, .ifCond .ne 7, 3), (112, .iconst 1, 1), (113, .goto 4, 3), (116, .iconst 0, 1), (117, .ireturn, 1)]
def pm_mm95 : pm_M := (⟨"LambdaShelf$Abstracter", "abstractInto", "(LLambdaShelf$Code;LLambdaShelf$Code;)Z"⟩, prog_2_method_2_code, 6, (Option.some FieldType.boolean), 2, 0, false, 827, pm_cc95)
def pm_cc96 : List (Nat × Instr × Nat) := [(0, .aload_n 0, 1), (1, .invokevirtual 63, 3), (4, .aload_n 0, 1), (5, .getfield 23, 3), (8, .getfield 53, 3), (11, .ifCond .eq 5, 3), (14, .iconst 0, 1), (15, .ireturn, 1), (16, .aload_n 0, 1), (17, .getfield 30, 3), (20, .aload_n 0, 1), (21, .getfield 23, 3), (24, .iconst 0, 1), (25, .aload_n 0, 1), (26, .getfield 23, 3), (29, .getfield 38, 3), (32, .invokevirtual 66, 3), (35, .aload_n 0, 1), (36, .invokevirtual 72, 3), (39, .aload_n 0, 1), (40, .invokevirtual 75, 3), (43, .aload_n 0, 1), (44, .getfield 27, 3), (47, .getfield 53, 3), (50, .ifCond .ne 7, 3), (53, .iconst 1, 1), (54, .goto 4, 3), (57, .iconst 0, 1), (58, .istore_n 1, 1), (59, .aload_n 0, 1), (60, .getfield 27, 3), (63, .getfield 38, 3), (66, .iconst 1, 1), (67, .isub, 1), (68, .istore_n 2, 1), (69, .iload_n 2, 1), (70, .ifCond .lt 26, 3), (73, .iload_n 1, 1), (74, .ifCond .eq 22, 3), (77, .aload_n 0, 1), (78, .aload_n 0, 1), (79, .getfield 27, 3), (82, .iload_n 2, 1), (83, .invokevirtual 41, 3), (86, .invokevirtual 49, 3), (89, .istore_n 1, 1), (90, .iinc 2 (-1), 3), (93, .goto (-24), 3), (96, .iload_n 1, 1), (97, .ireturn, 1)]
def pm_mm96 : pm_M := (⟨"LambdaShelf$Abstracter", "takeLambdaOut", "()Z"⟩, prog_2_method_5_code, 3, (Option.some FieldType.boolean), 0, 0, false, 832, pm_cc96)
def pm_cc97 : List (Nat × Instr × Nat) := [(0, .aload_n 0, 1), (1, .getfield 23, 3), (4, .invokevirtual 78, 3), (7, .iconst 1, 1), (8, .istore_n 1, 1), (9, .iload_n 1, 1), (10, .ifCond .le 65, 3), (13, .aload_n 0, 1), (14, .getfield 34, 3), (17, .sipush 1500, 3), (20, .if_icmp .ge 55, 3), (23, .aload_n 0, 1), (24, .getfield 23, 3), (27, .getfield 53, 3), (30, .ifCond .ne 45, 3), (33, .aload_n 0, 1), (34, .aload_n 0, 1), (35, .getfield 34, 3), (38, .invokevirtual 57, 3), (41, .istore_n 2, 1), (42, .iload_n 1, 1), (43, .iload_n 2, 1), (44, .ifCond .ne 7, 3), (47, .iconst 1, 1), (48, .goto 4, 3), (51, .iconst (-1), 1), (52, .iadd, 1), (53, .istore_n 1, 1), (54, .aload_n 0, 1), (55, .getfield 23, 3), (58, .iload_n 2, 1), (59, .invokevirtual 60, 3), (62, .aload_n 0, 1), (63, .dup, 1), (64, .getfield 34, 3), (67, .iconst 1, 1), (68, .iadd, 1), (69, .putfield 34, 3), (72, .goto (-63), 3), (75, .return_, 1)]
def pm_mm97 : pm_M := (⟨"LambdaShelf$Abstracter", "unholdBody", "()V"⟩, prog_2_method_6_code, 3, (Option.none : Option FieldType), 0, 0, false, 836, pm_cc97)
def pm_cc98 : List (Nat × Instr × Nat) := [(0, .iload_n 1, 1), (1, .ifCond .lt 21, 3), (4, .iload_n 1, 1), (5, .aload_n 0, 1), (6, .getfield 11, 3), (9, .arraylength, 1), (10, .if_icmp .ge 12, 3), (13, .aload_n 0, 1), (14, .getfield 11, 3), (17, .iload_n 1, 1), (18, .iaload, 1), (19, .goto 4, 3), (22, .iconst (-1), 1), (23, .ireturn, 1)]
def pm_mm98 : pm_M := (⟨"LambdaShelf$Abstracter", "heldAt", "(I)I"⟩, prog_2_method_3_code, 2, (Option.some FieldType.int), 1, 0, false, 841, pm_cc98)
def pm_cc99 : List (Nat × Instr × Nat) := [(0, .iconst 0, 1), (1, .istore_n 1, 1), (2, .iconst 0, 1), (3, .istore_n 2, 1), (4, .iload_n 2, 1), (5, .aload_n 0, 1), (6, .getfield 23, 3), (9, .getfield 38, 3), (12, .if_icmp .ge 57, 3), (15, .iload_n 2, 1), (16, .iconst 1, 1), (17, .iadd, 1), (18, .aload_n 0, 1), (19, .getfield 15, 3), (22, .arraylength, 1), (23, .if_icmp .ge 46, 3), (26, .aload_n 0, 1), (27, .getfield 15, 3), (30, .iload_n 2, 1), (31, .iload_n 1, 1), (32, .iastore, 1), (33, .iload_n 1, 1), (34, .aload_n 0, 1), (35, .getfield 23, 3), (38, .iload_n 2, 1), (39, .invokevirtual 41, 3), (42, .bipush 10, 2), (44, .if_icmp .ne 7, 3), (47, .iconst 1, 1), (48, .goto 4, 3), (51, .iconst 0, 1), (52, .iadd, 1), (53, .istore_n 1, 1), (54, .aload_n 0, 1), (55, .getfield 15, 3), (58, .iload_n 2, 1), (59, .iconst 1, 1), (60, .iadd, 1), (61, .iload_n 1, 1), (62, .iastore, 1), (63, .iinc 2 1, 3), (66, .goto (-62), 3), (69, .return_, 1)]
def pm_mm99 : pm_M := (⟨"LambdaShelf$Abstracter", "countMet", "()V"⟩, prog_2_method_7_code, 3, (Option.none : Option FieldType), 0, 0, false, 847, pm_cc99)
def pm_cc100 : List (Nat × Instr × Nat) := [(0, .aload_n 0, 1), (1, .getfield 27, 3), (4, .invokevirtual 78, 3), (7, .iconst 0, 1), (8, .istore_n 1, 1), (9, .iload_n 1, 1), (10, .aload_n 0, 1), (11, .getfield 23, 3), (14, .getfield 38, 3), (17, .if_icmp .ge 174, 3), (20, .aload_n 0, 1), (21, .getfield 27, 3), (24, .getfield 53, 3), (27, .ifCond .ne 164, 3), (30, .aload_n 0, 1), (31, .getfield 30, 3), (34, .iload_n 1, 1), (35, .invokevirtual 81, 3), (38, .iload_n 1, 1), (39, .iconst 1, 1), (40, .iadd, 1), (41, .invokestatic 84, 3), (44, .istore_n 2, 1), (45, .aload_n 0, 1), (46, .iload_n 1, 1), (47, .iload_n 2, 1), (48, .invokevirtual 90, 3), (51, .ifCond .ne 28, 3), (54, .aload_n 0, 1), (55, .getfield 27, 3), (58, .iconst 0, 1), (59, .invokevirtual 60, 3), (62, .aload_n 0, 1), (63, .getfield 27, 3), (66, .iconst 3, 1), (67, .invokevirtual 60, 3), (70, .aload_n 0, 1), (71, .iload_n 1, 1), (72, .iload_n 2, 1), (73, .invokevirtual 94, 3), (76, .goto 110, 3), (79, .aload_n 0, 1), (80, .getfield 23, 3), (83, .iload_n 1, 1), (84, .invokevirtual 41, 3), (87, .ifCond .eq 14, 3), (90, .aload_n 0, 1), (91, .getfield 27, 3), (94, .iconst 4, 1), (95, .invokevirtual 60, 3), (98, .goto 88, 3), (101, .aload_n 0, 1), (102, .getfield 23, 3), (105, .iload_n 2, 1), (106, .iconst 1, 1), (107, .isub, 1), (108, .invokevirtual 41, 3), (111, .bipush 10, 2), (113, .if_icmp .ne 45, 3), (116, .aload_n 0, 1), (117, .getfield 30, 3), (120, .iload_n 1, 1), (121, .iconst 1, 1), (122, .iadd, 1), (123, .invokevirtual 81, 3), (126, .iload_n 2, 1), (127, .iconst 1, 1), (128, .isub, 1), (129, .if_icmp .ne 29, 3), (132, .aload_n 0, 1), (133, .iload_n 1, 1), (134, .iconst 1, 1), (135, .iadd, 1), (136, .iload_n 2, 1), (137, .iconst 1, 1), (138, .isub, 1), (139, .invokevirtual 90, 3), (142, .ifCond .ne 16, 3), (145, .aload_n 0, 1), (146, .iload_n 1, 1), (147, .iconst 1, 1), (148, .iadd, 1), (149, .iload_n 2, 1), (150, .iconst 1, 1), (151, .isub, 1), (152, .invokevirtual 94, 3), (155, .goto 31, 3), (158, .aload_n 0, 1), (159, .getfield 27, 3), (162, .iconst 0, 1), (163, .invokevirtual 60, 3), (166, .aload_n 0, 1), (167, .getfield 27, 3), (170, .iconst 0, 1), (171, .invokevirtual 60, 3), (174, .aload_n 0, 1), (175, .getfield 27, 3), (178, .iconst 2, 1), (179, .invokevirtual 60, 3), (182, .iload_n 1, 1), (183, .iconst 1, 1), (184, .iadd, 1), (185, .istore_n 2, 1), (186, .iload_n 2, 1), (187, .istore_n 1, 1), (188, .goto (-179), 3), (191, .return_, 1)]
def pm_mm100 : pm_M := (⟨"LambdaShelf$Abstracter", "putAbstracted", "()V"⟩, prog_2_method_9_code, 3, (Option.none : Option FieldType), 0, 0, false, 851, pm_cc100)
def pm_cc101 : List (Nat × Instr × Nat) := [(0, .iload_n 1, 1), (1, .ifCond .lt 36, 3), (4, .iload_n 1, 1), (5, .iload_n 2, 1), (6, .if_icmp .gt 31, 3), (9, .iload_n 2, 1), (10, .aload_n 0, 1), (11, .getfield 15, 3), (14, .arraylength, 1), (15, .if_icmp .ge 22, 3), (18, .aload_n 0, 1), (19, .getfield 15, 3), (22, .iload_n 2, 1), (23, .iaload, 1), (24, .aload_n 0, 1), (25, .getfield 15, 3), (28, .iload_n 1, 1), (29, .iaload, 1), (30, .if_icmp .le 7, 3), (33, .iconst 1, 1), (34, .goto 4, 3), (37, .iconst 0, 1), (38, .ireturn, 1)]
def pm_mm101 : pm_M := (⟨"LambdaShelf$Abstracter", "isMet", "(II)Z"⟩, prog_2_method_8_code, 3, (Option.some FieldType.boolean), 2, 0, false, 857, pm_cc101)
def pm_cc102 : List (Nat × Instr × Nat) := [(0, .iload_n 1, 1), (1, .istore_n 3, 1), (2, .iload_n 3, 1), (3, .iload_n 2, 1), (4, .if_icmp .ge 42, 3), (7, .aload_n 0, 1), (8, .getfield 23, 3), (11, .iload_n 3, 1), (12, .invokevirtual 41, 3), (15, .istore 4, 2), (17, .aload_n 0, 1), (18, .getfield 27, 3), (21, .iload 4, 2), (23, .bipush 10, 2), (25, .if_icmp .le 10, 3), (28, .iload 4, 2), (30, .iconst 1, 1), (31, .isub, 1), (32, .goto 5, 3), (35, .iload 4, 2), (37, .invokevirtual 60, 3), (40, .iinc 3 1, 3), (43, .goto (-41), 3), (46, .return_, 1)]
def pm_mm102 : pm_M := (⟨"LambdaShelf$Abstracter", "putLowered", "(II)V"⟩, prog_2_method_10_code, 5, (Option.none : Option FieldType), 2, 0, false, 861, pm_cc102)
def pm_cc103 : List (Nat × Instr × Nat) := [(0, .aload_n 0, 1), (1, .getfield 34, 3), (4, .ifCond .le 15, 3), (7, .aload_n 0, 1), (8, .getfield 34, 3), (11, .aload_n 0, 1), (12, .getfield 11, 3), (15, .arraylength, 1), (16, .if_icmp .le 5, 3), (19, .iconst 0, 1), (20, .ireturn, 1), (21, .aload_n 0, 1), (22, .dup, 1), (23, .getfield 34, 3), (26, .iconst 1, 1), (27, .isub, 1), (28, .putfield 34, 3), (31, .aload_n 0, 1), (32, .getfield 11, 3), (35, .aload_n 0, 1), (36, .getfield 34, 3), (39, .iload_n 1, 1), (40, .iastore, 1), (41, .iconst 1, 1), (42, .ireturn, 1)]
def pm_mm103 : pm_M := (⟨"LambdaShelf$Abstracter", "hold", "(I)Z"⟩, prog_2_method_4_code, 2, (Option.some FieldType.boolean), 1, 0, false, 865, pm_cc103)
def pm_cc104 : List (Nat × Instr × Nat) := [(0, .aload_n 0, 1), (1, .iload_n 1, 1), (2, .invokevirtual 86, 3), (5, .astore_n 2, 1), (6, .aload_n 2, 1), (7, .ifnonnull 7, 3), (10, .iconst (-1), 1), (11, .goto 7, 3), (14, .aload_n 2, 1), (15, .invokestatic 153, 3), (18, .ireturn, 1)]
def pm_mm104 : pm_M := (⟨"LambdaShelf", "number", "(I)I"⟩, prog_1_method_18_code, 3, (Option.some FieldType.int), 1, 8, false, 869, pm_cc104)
def pm_cc105 : List (Nat × Instr × Nat) := [(0, .aload_n 0, 1), (1, .iconst 0, 1), (2, .invokevirtual 91, 3), (5, .iconst 1, 1), (6, .if_icmp .eq 12, 3), (9, .aload_n 0, 1), (10, .iconst 0, 1), (11, .iconst 5, 1), (12, .bipush 6, 2), (14, .invokestatic 188, 3), (17, .ireturn, 1), (18, .aload_n 0, 1), (19, .iconst 1, 1), (20, .invokevirtual 91, 3), (23, .iconst 1, 1), (24, .if_icmp .ne 13, 3), (27, .aload_n 0, 1), (28, .iconst 2, 1), (29, .bipush 11, 2), (31, .bipush 10, 2), (33, .invokestatic 188, 3), (36, .ireturn, 1), (37, .aload_n 0, 1), (38, .iconst 1, 1), (39, .invokevirtual 91, 3), (42, .bipush 10, 2), (44, .if_icmp .ne 7, 3), (47, .iconst 1, 1), (48, .goto 5, 3), (51, .bipush (-4), 2), (53, .ireturn, 1)]
def pm_mm105 : pm_M := (⟨"LambdaShelf", "numberOf", "(LLambdaShelf$Code;)I"⟩, prog_1_method_32_code, 1, (Option.some FieldType.int), 1, 8, false, 872, pm_cc105)
def pm_cc106 : List (Nat × Instr × Nat) := [(0, .iload_n 1, 1), (1, .istore 4, 2), (3, .iload 4, 2), (5, .aload_n 0, 1), (6, .getfield 90, 3), (9, .if_icmp .ge 30, 3), (12, .aload_n 0, 1), (13, .iload 4, 2), (15, .invokevirtual 91, 3), (18, .ifCond .ne 21, 3), (21, .aload_n 0, 1), (22, .iload 4, 2), (24, .iconst 1, 1), (25, .iadd, 1), (26, .invokevirtual 91, 3), (29, .iload_n 2, 1), (30, .if_icmp .ne 9, 3), (33, .iinc 4 2, 3), (36, .goto (-33), 3), (39, .aload_n 0, 1), (40, .iload 4, 2), (42, .invokevirtual 91, 3), (45, .iload_n 3, 1), (46, .if_icmp .ne 23, 3), (49, .iload 4, 2), (51, .iconst 1, 1), (52, .iadd, 1), (53, .aload_n 0, 1), (54, .getfield 90, 3), (57, .if_icmp .ne 12, 3), (60, .iload 4, 2), (62, .iload_n 1, 1), (63, .isub, 1), (64, .iconst 2, 1), (65, .idiv, 1), (66, .goto 5, 3), (69, .bipush (-4), 2), (71, .ireturn, 1)]
def pm_mm106 : pm_M := (⟨"LambdaShelf", "chainLength", "(LLambdaShelf$Code;III)I"⟩, prog_1_method_33_code, 5, (Option.some FieldType.int), 4, 8, false, 875, pm_cc106)
def pm_cc107 : List (Nat × Instr × Nat) := [(0, .aload_n 0, 1), (1, .iload_n 1, 1), (2, .invokevirtual 86, 3), (5, .astore_n 3, 1), (6, .aload_n 3, 1), (7, .ifnull 10, 3), (10, .iload_n 2, 1), (11, .invokestatic 121, 3), (14, .ifCond .ne 5, 3), (17, .iconst (-1), 1), (18, .ireturn, 1), (19, .aload_n 0, 1), (20, .aload_n 3, 1), (21, .invokevirtual 156, 3), (24, .aload_n 0, 1), (25, .getfield 25, 3), (28, .getfield 106, 3), (31, .ifCond .eq 8, 3), (34, .bipush (-3), 2), (36, .goto 4, 3), (39, .iconst 1, 1), (40, .istore 4, 2), (42, .iconst 0, 1), (43, .istore 5, 2), (45, .iload 5, 2), (47, .iload_n 2, 1), (48, .if_icmp .ge 29, 3), (51, .iload 4, 2), (53, .iconst 1, 1), (54, .if_icmp .ne 23, 3), (57, .aload_n 0, 1), (58, .getfield 57, 3), (61, .aload_n 0, 1), (62, .getfield 25, 3), (65, .iconst 0, 1), (66, .invokevirtual 118, 3), (69, .istore 4, 2), (71, .iinc 5 1, 3), (74, .goto (-29), 3), (77, .iload 4, 2), (79, .bipush (-3), 2), (81, .if_icmp .ne 6, 3), (84, .bipush (-3), 2), (86, .ireturn, 1), (87, .aload_n 0, 1), (88, .getfield 57, 3), (91, .aload_n 0, 1), (92, .getfield 25, 3), (95, .iconst 0, 1), (96, .invokevirtual 136, 3), (99, .bipush (-4), 2), (101, .if_icmp .ne 13, 3), (104, .aload_n 0, 1), (105, .getfield 25, 3), (108, .invokestatic 153, 3), (111, .goto 5, 3), (114, .bipush (-2), 2), (116, .ireturn, 1)]
def pm_mm107 : pm_M := (⟨"LambdaShelf", "read", "(II)I"⟩, prog_1_method_19_code, 6, (Option.some FieldType.int), 2, 8, false, 879, pm_cc107)
def pm_cc108 : List (Nat × Instr × Nat) := [(0, .aload_n 0, 1), (1, .getfield 25, 3), (4, .invokevirtual 185, 3), (7, .aload_n 0, 1), (8, .getfield 25, 3), (11, .iconst 0, 1), (12, .invokevirtual 99, 3), (15, .aload_n 0, 1), (16, .getfield 25, 3), (19, .iconst 0, 1), (20, .invokevirtual 99, 3), (23, .aload_n 0, 1), (24, .getfield 25, 3), (27, .aload_n 1, 1), (28, .invokevirtual 102, 3), (31, .aload_n 0, 1), (32, .getfield 25, 3), (35, .iconst 5, 1), (36, .invokevirtual 99, 3), (39, .aload_n 0, 1), (40, .getfield 25, 3), (43, .bipush 6, 2), (45, .invokevirtual 99, 3), (48, .return_, 1)]
def pm_mm108 : pm_M := (⟨"LambdaShelf", "putTrial", "(LLambdaShelf$Code;)V"⟩, prog_1_method_29_code, 2, (Option.none : Option FieldType), 1, 8, false, 883, pm_cc108)
def pm_cc109 : List (Nat × Instr × Nat) := [(0, .aload_n 0, 1), (1, .iload_n 1, 1), (2, .invokevirtual 86, 3), (5, .astore_n 2, 1), (6, .aload_n 2, 1), (7, .ifnonnull 5, 3), (10, .iconst (-1), 1), (11, .ireturn, 1), (12, .aload_n 0, 1), (13, .getfield 159, 3), (16, .ifnonnull 18, 3), (19, .aload_n 0, 1), (20, .new 163, 3), (23, .dup, 1), (24, .aload_n 0, 1), (25, .getfield 32, 3), (28, .invokespecial 165, 3), (31, .putfield 159, 3), (34, .aload_n 0, 1), (35, .getfield 159, 3), (38, .aload_n 2, 1), (39, .invokevirtual 166, 3), (42, .ireturn, 1)]
def pm_mm109 : pm_M := (⟨"LambdaShelf", "typed", "(I)I"⟩, prog_1_method_20_code, 3, (Option.some FieldType.int), 1, 8, false, 887, pm_cc109)
def pm_cc110 : List (Nat × Instr × Nat) := [(0, .aload_n 0, 1), (1, .invokespecial 3, 3), (4, .aload_n 0, 1), (5, .sipush 2800, 3), (8, .newarray .int, 2), (10, .putfield 11, 3), (13, .aload_n 0, 1), (14, .sipush 2800, 3), (17, .newarray .int, 2), (19, .putfield 15, 3), (22, .aload_n 0, 1), (23, .sipush 2800, 3), (26, .newarray .int, 2), (28, .putfield 18, 3), (31, .aload_n 0, 1), (32, .sipush 2800, 3), (35, .newarray .int, 2), (37, .putfield 21, 3), (40, .aload_n 0, 1), (41, .sipush 2800, 3), (44, .newarray .int, 2), (46, .putfield 24, 3), (49, .aload_n 0, 1), (50, .sipush 500, 3), (53, .newarray .int, 2), (55, .putfield 27, 3), (58, .aload_n 0, 1), (59, .sipush 501, 3), (62, .newarray .int, 2), (64, .putfield 30, 3), (67, .aload_n 0, 1), (68, .new 33, 3), (71, .dup, 1), (72, .sipush 500, 3), (75, .invokespecial 35, 3), (78, .putfield 38, 3), (81, .aload_n 0, 1), (82, .new 33, 3), (85, .dup, 1), (86, .sipush 500, 3), (89, .invokespecial 35, 3), (92, .putfield 42, 3), (95, .aload_n 0, 1), (96, .aload_n 1, 1), (97, .putfield 45, 3), (100, .return_, 1)]
def pm_mm110 : pm_M := (⟨"LambdaShelf$Typer", "<init>", "(LLambdaShelf$Shape;)V"⟩, prog_9_method_1_code, 2, (Option.none : Option FieldType), 1, 7, true, 892, pm_cc110)
def pm_cc111 : List (Nat × Instr × Nat) := [(0, .aload_n 0, 1), (1, .iconst 0, 1), (2, .putfield 49, 3), (5, .aload_n 0, 1), (6, .iconst 0, 1), (7, .putfield 53, 3), (10, .aload_n 0, 1), (11, .getfield 45, 3), (14, .aload_n 1, 1), (15, .iconst 0, 1), (16, .aload_n 1, 1), (17, .getfield 56, 3), (20, .invokevirtual 59, 3), (23, .aload_n 0, 1), (24, .invokevirtual 65, 3), (27, .istore_n 2, 1), (28, .aload_n 0, 1), (29, .aload_n 0, 1), (30, .invokevirtual 65, 3), (33, .putfield 69, 3), (36, .aload_n 0, 1), (37, .iload_n 2, 1), (38, .invokevirtual 72, 3), (41, .iconst 0, 1), (42, .istore_n 3, 1), (43, .iload_n 3, 1), (44, .aload_n 1, 1), (45, .getfield 56, 3), (48, .if_icmp .ge 23, 3), (51, .aload_n 0, 1), (52, .aload_n 1, 1), (53, .iload_n 3, 1), (54, .invokevirtual 75, 3), (57, .iload_n 3, 1), (58, .aload_n 0, 1), (59, .invokevirtual 79, 3), (62, .invokevirtual 82, 3), (65, .iinc 3 1, 3), (68, .goto (-25), 3), (71, .aload_n 0, 1), (72, .invokevirtual 86, 3), (75, .ifCond .eq 6, 3), (78, .bipush (-4), 2), (80, .ireturn, 1), (81, .aload_n 0, 1), (82, .iload_n 2, 1), (83, .invokevirtual 90, 3), (86, .aload_n 0, 1), (87, .getfield 38, 3), (90, .getfield 93, 3), (93, .ifCond .eq 6, 3), (96, .bipush (-3), 2), (98, .ireturn, 1), (99, .aload_n 0, 1), (100, .getfield 42, 3), (103, .invokevirtual 97, 3), (106, .aload_n 0, 1), (107, .getfield 42, 3), (110, .aload_n 0, 1), (111, .getfield 38, 3), (114, .invokevirtual 100, 3), (117, .aload_n 0, 1), (118, .getfield 42, 3), (121, .getfield 56, 3), (124, .ireturn, 1)]
def pm_mm111 : pm_M := (⟨"LambdaShelf$Typer", "lengthOfType", "(LLambdaShelf$Code;)I"⟩, prog_9_method_2_code, 4, (Option.some FieldType.int), 1, 7, false, 940, pm_cc111)
def pm_cc112 : List (Nat × Instr × Nat) := [(0, .aload_n 0, 1), (1, .iconst (-1), 1), (2, .iconst (-1), 1), (3, .invokevirtual 127, 3), (6, .ireturn, 1)]
def pm_mm112 : pm_M := (⟨"LambdaShelf$Typer", "any", "()I"⟩, prog_9_method_10_code, 1, (Option.some FieldType.int), 0, 7, false, 945, pm_cc112)
def pm_cc113 : List (Nat × Instr × Nat) := [(0, .aload_n 0, 1), (1, .getfield 49, 3), (4, .sipush 2799, 3), (7, .invokestatic 144, 3), (10, .istore_n 3, 1), (11, .aload_n 0, 1), (12, .getfield 11, 3), (15, .iload_n 3, 1), (16, .iload_n 1, 1), (17, .invokestatic 130, 3), (20, .aload_n 0, 1), (21, .getfield 15, 3), (24, .iload_n 3, 1), (25, .iload_n 2, 1), (26, .invokestatic 130, 3), (29, .aload_n 0, 1), (30, .getfield 18, 3), (33, .iload_n 3, 1), (34, .iload_n 3, 1), (35, .invokestatic 130, 3), (38, .aload_n 0, 1), (39, .iload_n 3, 1), (40, .iconst 1, 1), (41, .iadd, 1), (42, .putfield 49, 3), (45, .iload_n 3, 1), (46, .ireturn, 1)]
def pm_mm113 : pm_M := (⟨"LambdaShelf$Typer", "arrow", "(II)I"⟩, prog_9_method_11_code, 4, (Option.some FieldType.int), 2, 7, false, 949, pm_cc113)
def pm_cc114 : List (Nat × Instr × Nat) := [(0, .iload_n 1, 1), (1, .ifCond .lt 13, 3), (4, .iload_n 1, 1), (5, .aload_n 0, 1), (6, .arraylength, 1), (7, .if_icmp .ge 7, 3), (10, .aload_n 0, 1), (11, .iload_n 1, 1), (12, .iload_n 2, 1), (13, .iastore, 1), (14, .return_, 1)]
def pm_mm114 : pm_M := (⟨"LambdaShelf$Typer", "set", "([III)V"⟩, prog_9_method_13_code, 3, (Option.none : Option FieldType), 3, 7, false, 953, pm_cc114)
def pm_cc115 : List (Nat × Instr × Nat) := [(0, .aload_n 0, 1), (1, .getfield 53, 3), (4, .ifCond .lt 35, 3), (7, .aload_n 0, 1), (8, .getfield 53, 3), (11, .aload_n 0, 1), (12, .getfield 30, 3), (15, .arraylength, 1), (16, .if_icmp .ge 23, 3), (19, .aload_n 0, 1), (20, .getfield 30, 3), (23, .aload_n 0, 1), (24, .getfield 53, 3), (27, .iload_n 1, 1), (28, .iastore, 1), (29, .aload_n 0, 1), (30, .dup, 1), (31, .getfield 53, 3), (34, .iconst 1, 1), (35, .iadd, 1), (36, .putfield 53, 3), (39, .return_, 1)]
def pm_mm115 : pm_M := (⟨"LambdaShelf$Typer", "await", "(I)V"⟩, prog_9_method_14_code, 2, (Option.none : Option FieldType), 1, 7, false, 957, pm_cc115)
def pm_cc116 : List (Nat × Instr × Nat) := [(0, .aload_n 0, 1), (1, .getfield 53, 3), (4, .ifCond .le 15, 3), (7, .aload_n 0, 1), (8, .getfield 53, 3), (11, .aload_n 0, 1), (12, .getfield 30, 3), (15, .arraylength, 1), (16, .if_icmp .le 5, 3), (19, .iconst 0, 1), (20, .ireturn, 1), (21, .aload_n 0, 1), (22, .dup, 1), (23, .getfield 53, 3), (26, .iconst 1, 1), (27, .isub, 1), (28, .putfield 53, 3), (31, .aload_n 0, 1), (32, .getfield 30, 3), (35, .aload_n 0, 1), (36, .getfield 53, 3), (39, .iaload, 1), (40, .ireturn, 1)]
def pm_mm116 : pm_M := (⟨"LambdaShelf$Typer", "nextWaiting", "()I"⟩, prog_9_method_15_code, 1, (Option.some FieldType.int), 0, 7, false, 962, pm_cc116)
def pm_cc117 : List (Nat × Instr × Nat) := [(0, .iload_n 1, 1), (1, .ifCond .ne 11, 3), (4, .aload_n 0, 1), (5, .iload_n 3, 1), (6, .invokevirtual 104, 3), (9, .goto 68, 3), (12, .iload_n 1, 1), (13, .iconst 1, 1), (14, .if_icmp .ne 23, 3), (17, .aload_n 0, 1), (18, .iload_n 3, 1), (19, .aload_n 0, 1), (20, .aload_n 0, 1), (21, .getfield 45, 3), (24, .iload_n 2, 1), (25, .invokevirtual 107, 3), (28, .invokevirtual 110, 3), (31, .invokevirtual 113, 3), (34, .goto 43, 3), (37, .iload_n 1, 1), (38, .bipush 10, 2), (40, .if_icmp .lt 27, 3), (43, .aload_n 0, 1), (44, .iload_n 3, 1), (45, .aload_n 0, 1), (46, .getfield 27, 3), (49, .aload_n 0, 1), (50, .getfield 45, 3), (53, .iload_n 1, 1), (54, .iload_n 2, 1), (55, .invokevirtual 117, 3), (58, .invokestatic 121, 3), (61, .invokevirtual 113, 3), (64, .goto 13, 3), (67, .aload_n 0, 1), (68, .iload_n 3, 1), (69, .aload_n 0, 1), (70, .iload_n 1, 1), (71, .invokevirtual 124, 3), (74, .invokevirtual 113, 3), (77, .return_, 1)]
def pm_mm117 : pm_M := (⟨"LambdaShelf$Typer", "typeNode", "(III)V"⟩, prog_9_method_3_code, 4, (Option.none : Option FieldType), 3, 7, false, 966, pm_cc117)
def pm_cc118 : List (Nat × Instr × Nat) := [(0, .aload_n 0, 1), (1, .invokevirtual 65, 3), (4, .istore_n 2, 1), (5, .aload_n 0, 1), (6, .iload_n 2, 1), (7, .invokevirtual 72, 3), (10, .aload_n 0, 1), (11, .aload_n 0, 1), (12, .iload_n 2, 1), (13, .iload_n 1, 1), (14, .invokevirtual 127, 3), (17, .invokevirtual 72, 3), (20, .return_, 1)]
def pm_mm118 : pm_M := (⟨"LambdaShelf$Typer", "typeApply", "(I)V"⟩, prog_9_method_4_code, 3, (Option.none : Option FieldType), 1, 7, false, 970, pm_cc118)
def pm_cc119 : List (Nat × Instr × Nat) := [(0, .aload_n 0, 1), (1, .invokevirtual 65, 3), (4, .istore_n 2, 1), (5, .aload_n 0, 1), (6, .invokevirtual 65, 3), (9, .istore_n 3, 1), (10, .aload_n 0, 1), (11, .getfield 27, 3), (14, .iload_n 1, 1), (15, .iload_n 2, 1), (16, .invokestatic 130, 3), (19, .aload_n 0, 1), (20, .iload_n 3, 1), (21, .invokevirtual 72, 3), (24, .aload_n 0, 1), (25, .iload_n 2, 1), (26, .iload_n 3, 1), (27, .invokevirtual 127, 3), (30, .ireturn, 1)]
def pm_mm119 : pm_M := (⟨"LambdaShelf$Typer", "typeOfLambda", "(I)I"⟩, prog_9_method_5_code, 4, (Option.some FieldType.int), 1, 7, false, 975, pm_cc119)
def pm_cc120 : List (Nat × Instr × Nat) := [(0, .aload_n 0, 1), (1, .iload_n 1, 1), (2, .iload_n 2, 1), (3, .iconst 0, 1), (4, .invokevirtual 149, 3), (7, .istore_n 3, 1), (8, .iconst 0, 1), (9, .istore 4, 2), (11, .iload 4, 2), (13, .iload_n 3, 1), (14, .if_icmp .ge 84, 3), (17, .iload 4, 2), (19, .sipush 2800, 3), (22, .if_icmp .ge 76, 3), (25, .aload_n 0, 1), (26, .getfield 21, 3), (29, .iload 4, 2), (31, .invokestatic 121, 3), (34, .istore 5, 2), (36, .aload_n 0, 1), (37, .iload 5, 2), (39, .invokevirtual 152, 3), (42, .istore 6, 2), (44, .aload_n 0, 1), (45, .aload_n 0, 1), (46, .getfield 11, 3), (49, .iload 5, 2), (51, .invokestatic 121, 3), (54, .aload_n 0, 1), (55, .getfield 11, 3), (58, .iload 6, 2), (60, .invokestatic 121, 3), (63, .iload_n 3, 1), (64, .invokevirtual 149, 3), (67, .istore_n 3, 1), (68, .aload_n 0, 1), (69, .aload_n 0, 1), (70, .getfield 15, 3), (73, .iload 5, 2), (75, .invokestatic 121, 3), (78, .aload_n 0, 1), (79, .getfield 15, 3), (82, .iload 6, 2), (84, .invokestatic 121, 3), (87, .iload_n 3, 1), (88, .invokevirtual 149, 3), (91, .istore_n 3, 1), (92, .iinc 4 1, 3), (95, .goto (-84), 3), (98, .return_, 1)]
def pm_mm120 : pm_M := (⟨"LambdaShelf$Typer", "joinAll", "(II)V"⟩, prog_9_method_18_code, 7, (Option.none : Option FieldType), 2, 7, false, 979, pm_cc120)
def pm_cc121 : List (Nat × Instr × Nat) := [(0, .aload_n 0, 1), (1, .iload_n 1, 1), (2, .invokevirtual 152, 3), (5, .istore 4, 2), (7, .aload_n 0, 1), (8, .iload_n 2, 1), (9, .invokevirtual 152, 3), (12, .istore 5, 2), (14, .iload 4, 2), (16, .iload 5, 2), (18, .if_icmp .ne 5, 3), (21, .iload_n 3, 1), (22, .ireturn, 1), (23, .aload_n 0, 1), (24, .iload 4, 2), (26, .invokevirtual 155, 3), (29, .ifCond .eq 31, 3), (32, .aload_n 0, 1), (33, .iload 5, 2), (35, .invokevirtual 155, 3), (38, .ifCond .eq 22, 3), (41, .aload_n 0, 1), (42, .getfield 18, 3), (45, .iload 4, 2), (47, .iload 5, 2), (49, .invokestatic 130, 3), (52, .aload_n 0, 1), (53, .iload 4, 2), (55, .iload_n 3, 1), (56, .invokevirtual 159, 3), (59, .ireturn, 1), (60, .aload_n 0, 1), (61, .iload 4, 2), (63, .invokevirtual 155, 3), (66, .ifCond .eq 17, 3), (69, .aload_n 0, 1), (70, .getfield 18, 3), (73, .iload 5, 2), (75, .iload 4, 2), (77, .invokestatic 130, 3), (80, .goto 14, 3), (83, .aload_n 0, 1), (84, .getfield 18, 3), (87, .iload 4, 2), (89, .iload 5, 2), (91, .invokestatic 130, 3), (94, .iload_n 3, 1), (95, .ireturn, 1)]
def pm_mm121 : pm_M := (⟨"LambdaShelf$Typer", "join", "(III)I"⟩, prog_9_method_19_code, 6, (Option.some FieldType.int), 3, 7, false, 983, pm_cc121)
def pm_cc122 : List (Nat × Instr × Nat) := [(0, .iload_n 1, 1), (1, .istore_n 2, 1), (2, .iconst 0, 1), (3, .istore_n 3, 1), (4, .iload_n 3, 1), (5, .sipush 2800, 3), (8, .if_icmp .ge 53, 3), (11, .aload_n 0, 1), (12, .getfield 18, 3), (15, .iload_n 2, 1), (16, .invokestatic 121, 3), (19, .iload_n 2, 1), (20, .if_icmp .eq 41, 3), (23, .aload_n 0, 1), (24, .getfield 18, 3), (27, .iload_n 2, 1), (28, .aload_n 0, 1), (29, .getfield 18, 3), (32, .aload_n 0, 1), (33, .getfield 18, 3), (36, .iload_n 2, 1), (37, .invokestatic 121, 3), (40, .invokestatic 121, 3), (43, .invokestatic 130, 3), (46, .aload_n 0, 1), (47, .getfield 18, 3), (50, .iload_n 2, 1), (51, .invokestatic 121, 3), (54, .istore_n 2, 1), (55, .iinc 3 1, 3), (58, .goto (-54), 3), (61, .iload_n 2, 1), (62, .ireturn, 1)]
def pm_mm122 : pm_M := (⟨"LambdaShelf$Typer", "rootOf", "(I)I"⟩, prog_9_method_16_code, 4, (Option.some FieldType.int), 1, 7, false, 987, pm_cc122)
def pm_cc123 : List (Nat × Instr × Nat) := [(0, .iload_n 1, 1), (1, .ifCond .lt 15, 3), (4, .iload_n 1, 1), (5, .aload_n 0, 1), (6, .arraylength, 1), (7, .if_icmp .ge 9, 3), (10, .aload_n 0, 1), (11, .iload_n 1, 1), (12, .iaload, 1), (13, .goto 4, 3), (16, .iconst 0, 1), (17, .ireturn, 1)]
def pm_mm123 : pm_M := (⟨"LambdaShelf$Typer", "at", "([II)I"⟩, prog_9_method_12_code, 2, (Option.some FieldType.int), 2, 7, false, 990, pm_cc123)
def pm_cc124 : List (Nat × Instr × Nat) := [(0, .aload_n 0, 1), (1, .getfield 11, 3), (4, .iload_n 1, 1), (5, .invokestatic 121, 3), (8, .iconst (-1), 1), (9, .if_icmp .eq 7, 3), (12, .iconst 1, 1), (13, .goto 4, 3), (16, .iconst 0, 1), (17, .ireturn, 1)]
def pm_mm124 : pm_M := (⟨"LambdaShelf$Typer", "isArrow", "(I)Z"⟩, prog_9_method_17_code, 2, (Option.some FieldType.boolean), 1, 7, false, 994, pm_cc124)
def pm_cc125 : List (Nat × Instr × Nat) := [(0, .iload_n 2, 1), (1, .ifCond .lt 10, 3), (4, .iload_n 2, 1), (5, .sipush 2800, 3), (8, .if_icmp .lt 5, 3), (11, .iload_n 2, 1), (12, .ireturn, 1), (13, .aload_n 0, 1), (14, .getfield 21, 3), (17, .iload_n 2, 1), (18, .iload_n 1, 1), (19, .invokestatic 130, 3), (22, .iload_n 2, 1), (23, .iconst 1, 1), (24, .iadd, 1), (25, .ireturn, 1)]
def pm_mm125 : pm_M := (⟨"LambdaShelf$Typer", "enqueue", "(II)I"⟩, prog_9_method_20_code, 3, (Option.some FieldType.int), 2, 7, false, 998, pm_cc125)
def pm_cc126 : List (Nat × Instr × Nat) := [(0, .iload_n 1, 1), (1, .tableswitch 79 2 5 #[31, 48, 61, 70], 31), (32, .aload_n 0, 1), (33, .aload_n 0, 1), (34, .invokevirtual 65, 3), (37, .aload_n 0, 1), (38, .invokevirtual 65, 3), (41, .aload_n 0, 1), (42, .invokevirtual 65, 3), (45, .invokevirtual 134, 3), (48, .ireturn, 1), (49, .aload_n 0, 1), (50, .aload_n 0, 1), (51, .invokevirtual 65, 3), (54, .aload_n 0, 1), (55, .invokevirtual 65, 3), (58, .invokevirtual 138, 3), (61, .ireturn, 1), (62, .aload_n 0, 1), (63, .aload_n 0, 1), (64, .invokevirtual 65, 3), (67, .invokevirtual 141, 3), (70, .ireturn, 1), (71, .aload_n 0, 1), (72, .aload_n 0, 1), (73, .getfield 69, 3), (76, .invokevirtual 141, 3), (79, .ireturn, 1), (80, .aload_n 0, 1), (81, .getfield 69, 3), (84, .ireturn, 1)]
def pm_mm126 : pm_M := (⟨"LambdaShelf$Typer", "typeOfLetter", "(I)I"⟩, prog_9_method_6_code, 2, (Option.some FieldType.int), 1, 7, false, 1003, pm_cc126)
def pm_cc127 : List (Nat × Instr × Nat) := [(0, .aload_n 0, 1), (1, .iload_n 1, 1), (2, .aload_n 0, 1), (3, .iload_n 2, 1), (4, .iload_n 3, 1), (5, .invokevirtual 127, 3), (8, .invokevirtual 127, 3), (11, .istore 4, 2), (13, .aload_n 0, 1), (14, .iload 4, 2), (16, .aload_n 0, 1), (17, .aload_n 0, 1), (18, .iload_n 1, 1), (19, .iload_n 2, 1), (20, .invokevirtual 127, 3), (23, .aload_n 0, 1), (24, .iload_n 1, 1), (25, .iload_n 3, 1), (26, .invokevirtual 127, 3), (29, .invokevirtual 127, 3), (32, .invokevirtual 127, 3), (35, .ireturn, 1)]
def pm_mm127 : pm_M := (⟨"LambdaShelf$Typer", "typeOfS", "(III)I"⟩, prog_9_method_9_code, 5, (Option.some FieldType.int), 3, 7, false, 1007, pm_cc127)
def pm_cc128 : List (Nat × Instr × Nat) := [(0, .aload_n 0, 1), (1, .iload_n 1, 1), (2, .aload_n 0, 1), (3, .iload_n 2, 1), (4, .iload_n 1, 1), (5, .invokevirtual 127, 3), (8, .invokevirtual 127, 3), (11, .ireturn, 1)]
def pm_mm128 : pm_M := (⟨"LambdaShelf$Typer", "typeOfK", "(II)I"⟩, prog_9_method_7_code, 3, (Option.some FieldType.int), 2, 7, false, 1011, pm_cc128)
def pm_cc129 : List (Nat × Instr × Nat) := [(0, .aload_n 0, 1), (1, .iload_n 1, 1), (2, .iload_n 1, 1), (3, .invokevirtual 127, 3), (6, .ireturn, 1)]
def pm_mm129 : pm_M := (⟨"LambdaShelf$Typer", "typeOfI", "(I)I"⟩, prog_9_method_8_code, 2, (Option.some FieldType.int), 1, 7, false, 1015, pm_cc129)
def pm_cc130 : List (Nat × Instr × Nat) := [(0, .aload_n 0, 1), (1, .invokevirtual 162, 3), (4, .iconst 0, 1), (5, .istore_n 1, 1), (6, .iconst 0, 1), (7, .istore_n 2, 1), (8, .iconst 0, 1), (9, .istore_n 3, 1), (10, .iload_n 3, 1), (11, .aload_n 0, 1), (12, .getfield 49, 3), (15, .if_icmp .ge 43, 3), (18, .aload_n 0, 1), (19, .iload_n 3, 1), (20, .invokevirtual 152, 3), (23, .iload_n 3, 1), (24, .if_icmp .ne 28, 3), (27, .iinc 1 1, 3), (30, .aload_n 0, 1), (31, .getfield 24, 3), (34, .iload_n 3, 1), (35, .invokestatic 121, 3), (38, .ifCond .ne 12, 3), (41, .aload_n 0, 1), (42, .iload_n 3, 1), (43, .iload_n 2, 1), (44, .invokevirtual 159, 3), (47, .goto 4, 3), (50, .iload_n 2, 1), (51, .istore_n 2, 1), (52, .iinc 3 1, 3), (55, .goto (-45), 3), (58, .iconst 0, 1), (59, .istore_n 3, 1), (60, .iload_n 3, 1), (61, .iload_n 2, 1), (62, .if_icmp .ge 73, 3), (65, .iload_n 3, 1), (66, .sipush 2800, 3), (69, .if_icmp .ge 66, 3), (72, .aload_n 0, 1), (73, .getfield 21, 3), (76, .iload_n 3, 1), (77, .invokestatic 121, 3), (80, .istore 4, 2), (82, .aload_n 0, 1), (83, .iload 4, 2), (85, .invokevirtual 155, 3), (88, .ifCond .eq 41, 3), (91, .aload_n 0, 1), (92, .aload_n 0, 1), (93, .aload_n 0, 1), (94, .getfield 11, 3), (97, .iload 4, 2), (99, .invokestatic 121, 3), (102, .invokevirtual 152, 3), (105, .iload_n 2, 1), (106, .invokevirtual 165, 3), (109, .istore_n 2, 1), (110, .aload_n 0, 1), (111, .aload_n 0, 1), (112, .aload_n 0, 1), (113, .getfield 15, 3), (116, .iload 4, 2), (118, .invokestatic 121, 3), (121, .invokevirtual 152, 3), (124, .iload_n 2, 1), (125, .invokevirtual 165, 3), (128, .istore_n 2, 1), (129, .iinc 3 1, 3), (132, .goto (-72), 3), (135, .iload_n 2, 1), (136, .iload_n 1, 1), (137, .if_icmp .ge 7, 3), (140, .iconst 1, 1), (141, .goto 4, 3), (144, .iconst 0, 1), (145, .ireturn, 1)]
def pm_mm130 : pm_M := (⟨"LambdaShelf$Typer", "hasCircle", "()Z"⟩, prog_9_method_21_code, 5, (Option.some FieldType.boolean), 0, 7, false, 1019, pm_cc130)
def pm_cc131 : List (Nat × Instr × Nat) := [(0, .aload_n 0, 1), (1, .invokevirtual 168, 3), (4, .iconst 0, 1), (5, .istore_n 1, 1), (6, .iload_n 1, 1), (7, .aload_n 0, 1), (8, .getfield 49, 3), (11, .if_icmp .ge 58, 3), (14, .aload_n 0, 1), (15, .iload_n 1, 1), (16, .invokevirtual 152, 3), (19, .iload_n 1, 1), (20, .if_icmp .ne 43, 3), (23, .aload_n 0, 1), (24, .iload_n 1, 1), (25, .invokevirtual 155, 3), (28, .ifCond .eq 35, 3), (31, .aload_n 0, 1), (32, .aload_n 0, 1), (33, .aload_n 0, 1), (34, .getfield 11, 3), (37, .iload_n 1, 1), (38, .invokestatic 121, 3), (41, .invokevirtual 152, 3), (44, .invokevirtual 171, 3), (47, .aload_n 0, 1), (48, .aload_n 0, 1), (49, .aload_n 0, 1), (50, .getfield 15, 3), (53, .iload_n 1, 1), (54, .invokestatic 121, 3), (57, .invokevirtual 152, 3), (60, .invokevirtual 171, 3), (63, .iinc 1 1, 3), (66, .goto (-60), 3), (69, .return_, 1)]
def pm_mm131 : pm_M := (⟨"LambdaShelf$Typer", "countSides", "()V"⟩, prog_9_method_22_code, 2, (Option.none : Option FieldType), 0, 7, false, 1023, pm_cc131)
def pm_cc132 : List (Nat × Instr × Nat) := [(0, .iconst 0, 1), (1, .istore_n 1, 1), (2, .iload_n 1, 1), (3, .sipush 2800, 3), (6, .if_icmp .ge 18, 3), (9, .aload_n 0, 1), (10, .getfield 24, 3), (13, .iload_n 1, 1), (14, .iconst 0, 1), (15, .invokestatic 130, 3), (18, .iinc 1 1, 3), (21, .goto (-19), 3), (24, .return_, 1)]
def pm_mm132 : pm_M := (⟨"LambdaShelf$Typer", "clearMarks", "()V"⟩, prog_9_method_25_code, 2, (Option.none : Option FieldType), 0, 7, false, 1027, pm_cc132)
def pm_cc133 : List (Nat × Instr × Nat) := [(0, .aload_n 0, 1), (1, .getfield 24, 3), (4, .iload_n 1, 1), (5, .aload_n 0, 1), (6, .getfield 24, 3), (9, .iload_n 1, 1), (10, .invokestatic 121, 3), (13, .iconst 1, 1), (14, .iadd, 1), (15, .invokestatic 130, 3), (18, .return_, 1)]
def pm_mm133 : pm_M := (⟨"LambdaShelf$Typer", "countSide", "(I)V"⟩, prog_9_method_23_code, 2, (Option.none : Option FieldType), 1, 7, false, 1031, pm_cc133)
def pm_cc134 : List (Nat × Instr × Nat) := [(0, .aload_n 0, 1), (1, .getfield 24, 3), (4, .iload_n 1, 1), (5, .aload_n 0, 1), (6, .getfield 24, 3), (9, .iload_n 1, 1), (10, .invokestatic 121, 3), (13, .iconst 1, 1), (14, .isub, 1), (15, .invokestatic 130, 3), (18, .aload_n 0, 1), (19, .getfield 24, 3), (22, .iload_n 1, 1), (23, .invokestatic 121, 3), (26, .ifCond .ne 12, 3), (29, .aload_n 0, 1), (30, .iload_n 1, 1), (31, .iload_n 2, 1), (32, .invokevirtual 159, 3), (35, .goto 4, 3), (38, .iload_n 2, 1), (39, .ireturn, 1)]
def pm_mm134 : pm_M := (⟨"LambdaShelf$Typer", "release", "(II)I"⟩, prog_9_method_24_code, 3, (Option.some FieldType.int), 2, 7, false, 1035, pm_cc134)
def pm_cc135 : List (Nat × Instr × Nat) := [(0, .aload_n 0, 1), (1, .invokevirtual 168, 3), (4, .aload_n 0, 1), (5, .getfield 38, 3), (8, .invokevirtual 97, 3), (11, .aload_n 0, 1), (12, .iconst 0, 1), (13, .putfield 53, 3), (16, .aload_n 0, 1), (17, .iload_n 1, 1), (18, .invokevirtual 72, 3), (21, .iconst 0, 1), (22, .istore_n 2, 1), (23, .iconst 0, 1), (24, .istore_n 3, 1), (25, .iload_n 3, 1), (26, .sipush 500, 3), (29, .if_icmp .gt 123, 3), (32, .aload_n 0, 1), (33, .getfield 53, 3), (36, .ifCond .le 116, 3), (39, .aload_n 0, 1), (40, .getfield 38, 3), (43, .getfield 93, 3), (46, .ifCond .ne 106, 3), (49, .aload_n 0, 1), (50, .aload_n 0, 1), (51, .invokevirtual 79, 3), (54, .invokevirtual 152, 3), (57, .istore 4, 2), (59, .aload_n 0, 1), (60, .iload 4, 2), (62, .invokevirtual 155, 3), (65, .ifCond .eq 40, 3), (68, .aload_n 0, 1), (69, .getfield 38, 3), (72, .iconst 0, 1), (73, .invokevirtual 174, 3), (76, .aload_n 0, 1), (77, .aload_n 0, 1), (78, .getfield 15, 3), (81, .iload 4, 2), (83, .invokestatic 121, 3), (86, .invokevirtual 72, 3), (89, .aload_n 0, 1), (90, .aload_n 0, 1), (91, .getfield 11, 3), (94, .iload 4, 2), (96, .invokestatic 121, 3), (99, .invokevirtual 72, 3), (102, .goto 44, 3), (105, .aload_n 0, 1), (106, .getfield 24, 3), (109, .iload 4, 2), (111, .invokestatic 121, 3), (114, .ifCond .ne 16, 3), (117, .iinc 2 1, 3), (120, .aload_n 0, 1), (121, .getfield 24, 3), (124, .iload 4, 2), (126, .iload_n 2, 1), (127, .invokestatic 130, 3), (130, .aload_n 0, 1), (131, .getfield 38, 3), (134, .aload_n 0, 1), (135, .getfield 24, 3), (138, .iload 4, 2), (140, .invokestatic 121, 3), (143, .invokevirtual 174, 3), (146, .iinc 3 1, 3), (149, .goto (-124), 3), (152, .return_, 1)]
def pm_mm135 : pm_M := (⟨"LambdaShelf$Typer", "tellType", "(I)V"⟩, prog_9_method_26_code, 5, (Option.none : Option FieldType), 1, 7, false, 1039, pm_cc135)
def pm_cc136 : List (Nat × Instr × Nat) := [(0, .aload_n 0, 1), (1, .getfield 159, 3), (4, .ifnonnull 7, 3), (7, .iconst (-1), 1), (8, .goto 14, 3), (11, .aload_n 0, 1), (12, .getfield 159, 3), (15, .getfield 169, 3), (18, .iload_n 1, 1), (19, .invokevirtual 91, 3), (22, .ireturn, 1)]
def pm_mm136 : pm_M := (⟨"LambdaShelf", "type", "(I)I"⟩, prog_1_method_21_code, 2, (Option.some FieldType.int), 1, 8, false, 1046, pm_cc136)
def pm_cc137 : List (Nat × Instr × Nat) := [(0, .aload_n 0, 1), (1, .iload_n 1, 1), (2, .invokevirtual 86, 3), (5, .astore_n 3, 1), (6, .aload_n 3, 1), (7, .ifnonnull 5, 3), (10, .iconst (-1), 1), (11, .ireturn, 1), (12, .iload_n 2, 1), (13, .tableswitch 113 0 4 #[35, 44, 59, 77, 93], 35), (48, .aload_n 0, 1), (49, .getfield 32, 3), (52, .aload_n 3, 1), (53, .invokevirtual 172, 3), (56, .ireturn, 1), (57, .aload_n 3, 1), (58, .iconst 1, 1), (59, .iconst 1, 1), (60, .invokevirtual 175, 3), (63, .ifCond .eq 7, 3), (66, .iconst 1, 1), (67, .goto 4, 3), (70, .iconst 0, 1), (71, .ireturn, 1), (72, .aload_n 3, 1), (73, .bipush 10, 2), (75, .sipush 510, 3), (78, .invokevirtual 175, 3), (81, .ifCond .eq 7, 3), (84, .iconst 1, 1), (85, .goto 4, 3), (88, .iconst 0, 1), (89, .ireturn, 1), (90, .aload_n 3, 1), (91, .iconst 2, 1), (92, .bipush 6, 2), (94, .invokevirtual 175, 3), (97, .ifCond .eq 7, 3), (100, .iconst 1, 1), (101, .goto 4, 3), (104, .iconst 0, 1), (105, .ireturn, 1), (106, .aload_n 0, 1), (107, .getfield 57, 3), (110, .aload_n 3, 1), (111, .iconst 0, 1), (112, .invokevirtual 136, 3), (115, .bipush (-4), 2), (117, .if_icmp .ne 7, 3), (120, .iconst 1, 1), (121, .goto 4, 3), (124, .iconst 0, 1), (125, .ireturn, 1), (126, .iconst (-1), 1), (127, .ireturn, 1)]
def pm_mm137 : pm_M := (⟨"LambdaShelf", "about", "(II)I"⟩, prog_1_method_22_code, 4, (Option.some FieldType.int), 2, 8, false, 1050, pm_cc137)
def pm_cc138 : List (Nat × Instr × Nat) := [(0, .aload_n 0, 1), (1, .aload_n 1, 1), (2, .iconst 0, 1), (3, .aload_n 1, 1), (4, .getfield 48, 3), (7, .invokevirtual 52, 3), (10, .iconst 0, 1), (11, .istore_n 2, 1), (12, .iconst 0, 1), (13, .istore_n 3, 1), (14, .iload_n 3, 1), (15, .aload_n 1, 1), (16, .getfield 48, 3), (19, .if_icmp .ge 19, 3), (22, .iload_n 2, 1), (23, .aload_n 0, 1), (24, .iload_n 3, 1), (25, .invokevirtual 45, 3), (28, .invokestatic 26, 3), (31, .istore_n 2, 1), (32, .iinc 3 1, 3), (35, .goto (-21), 3), (38, .iload_n 2, 1), (39, .ireturn, 1)]
def pm_mm138 : pm_M := (⟨"LambdaShelf$Shape", "deepest", "(LLambdaShelf$Code;)I"⟩, prog_5_method_6_code, 4, (Option.some FieldType.int), 1, 3, false, 1054, pm_cc138)
def pm_cc139 : List (Nat × Instr × Nat) := [(0, .iconst 0, 1), (1, .istore_n 3, 1), (2, .iload_n 3, 1), (3, .aload_n 0, 1), (4, .getfield 21, 3), (7, .if_icmp .ge 29, 3), (10, .aload_n 0, 1), (11, .iload_n 3, 1), (12, .invokevirtual 39, 3), (15, .iload_n 1, 1), (16, .if_icmp .lt 14, 3), (19, .aload_n 0, 1), (20, .iload_n 3, 1), (21, .invokevirtual 39, 3), (24, .iload_n 2, 1), (25, .if_icmp .gt 5, 3), (28, .iconst 1, 1), (29, .ireturn, 1), (30, .iinc 3 1, 3), (33, .goto (-31), 3), (36, .iconst 0, 1), (37, .ireturn, 1)]
def pm_mm139 : pm_M := (⟨"LambdaShelf$Code", "hasCell", "(II)Z"⟩, prog_3_method_9_code, 4, (Option.some FieldType.boolean), 2, 1, false, 1059, pm_cc139)
def pm_cc140 : List (Nat × Instr × Nat) := [(0, .aload_n 0, 1), (1, .getfield 179, 3), (4, .ifCond .ne 6, 3), (7, .bipush (-4), 2), (9, .ireturn, 1), (10, .aload_n 0, 1), (11, .dup, 1), (12, .getfield 179, 3), (15, .iconst 1, 1), (16, .isub, 1), (17, .putfield 179, 3), (20, .aload_n 0, 1), (21, .getfield 179, 3), (24, .ireturn, 1)]
def pm_mm140 : pm_M := (⟨"LambdaShelf", "drop", "()I"⟩, prog_1_method_23_code, 1, (Option.some FieldType.int), 0, 8, false, 1063, pm_cc140)
def pm_cc141 : List (Nat × Instr × Nat) := [(0, .iload_n 1, 1), (1, .tableswitch 45 0 2 #[27, 32, 40], 27), (28, .aload_n 0, 1), (29, .getfield 179, 3), (32, .ireturn, 1), (33, .aload_n 0, 1), (34, .getfield 10, 3), (37, .getfield 61, 3), (40, .ireturn, 1), (41, .aload_n 0, 1), (42, .invokevirtual 182, 3), (45, .ireturn, 1), (46, .iconst (-1), 1), (47, .ireturn, 1)]
def pm_mm141 : pm_M := (⟨"LambdaShelf", "count", "(I)I"⟩, prog_1_method_24_code, 2, (Option.some FieldType.int), 1, 8, false, 1067, pm_cc141)
def pm_cc142 : List (Nat × Instr × Nat) := [(0, .iconst 0, 1), (1, .istore_n 1, 1), (2, .iconst 0, 1), (3, .istore_n 2, 1), (4, .iload_n 2, 1), (5, .aload_n 0, 1), (6, .getfield 179, 3), (9, .if_icmp .ge 30, 3), (12, .aload_n 0, 1), (13, .iload_n 2, 1), (14, .invokevirtual 86, 3), (17, .astore_n 3, 1), (18, .iload_n 1, 1), (19, .aload_n 3, 1), (20, .ifnonnull 7, 3), (23, .iconst 0, 1), (24, .goto 7, 3), (27, .aload_n 3, 1), (28, .getfield 90, 3), (31, .iadd, 1), (32, .istore_n 1, 1), (33, .iinc 2 1, 3), (36, .goto (-32), 3), (39, .iload_n 1, 1), (40, .ireturn, 1)]
def pm_mm142 : pm_M := (⟨"LambdaShelf", "allNodes", "()I"⟩, prog_1_method_28_code, 4, (Option.some FieldType.int), 0, 8, false, 1071, pm_cc142)
def pm_cc143 : List (Nat × Instr × Nat) := [(0, .aload_n 0, 1), (1, .invokespecial 1, 3), (4, .aload_n 0, 1), (5, .bipush 32, 2), (7, .newarray .int, 2), (9, .putfield 7, 3), (12, .aload_n 0, 1), (13, .sipush 16000, 3), (16, .newarray .int, 2), (18, .putfield 13, 3), (21, .aload_n 0, 1), (22, .sipush 600, 3), (25, .newarray .int, 2), (27, .putfield 16, 3), (30, .aload_n 0, 1), (31, .sipush 12000, 3), (34, .newarray .int, 2), (36, .putfield 19, 3), (39, .aload_n 0, 1), (40, .sipush 12000, 3), (43, .newarray .int, 2), (45, .putfield 22, 3), (48, .aload_n 0, 1), (49, .sipush 12000, 3), (52, .newarray .int, 2), (54, .putfield 25, 3), (57, .aload_n 0, 1), (58, .bipush 90, 2), (60, .newarray .int, 2), (62, .putfield 28, 3), (65, .aload_n 0, 1), (66, .bipush 90, 2), (68, .newarray .boolean, 2), (70, .putfield 31, 3), (73, .aload_n 0, 1), (74, .bipush 90, 2), (76, .newarray .int, 2), (78, .putfield 35, 3), (81, .aload_n 0, 1), (82, .bipush 41, 2), (84, .newarray .long, 2), (86, .putfield 38, 3), (89, .aload_n 0, 1), (90, .sipush 6000, 3), (93, .newarray .int, 2), (95, .putfield 42, 3), (98, .aload_n 0, 1), (99, .sipush 501, 3), (102, .newarray .boolean, 2), (104, .putfield 45, 3), (107, .aload_n 0, 1), (108, .sipush 501, 3), (111, .newarray .boolean, 2), (113, .putfield 48, 3), (116, .aload_n 0, 1), (117, .sipush 501, 3), (120, .newarray .int, 2), (122, .putfield 51, 3), (125, .aload_n 0, 1), (126, .sipush 12000, 3), (129, .newarray .int, 2), (131, .putfield 54, 3), (134, .aload_n 0, 1), (135, .sipush 12000, 3), (138, .newarray .int, 2), (140, .putfield 57, 3), (143, .aload_n 0, 1), (144, .sipush 9000, 3), (147, .newarray .int, 2), (149, .putfield 60, 3), (152, .aload_n 0, 1), (153, .sipush 9000, 3), (156, .newarray .int, 2), (158, .putfield 63, 3), (161, .aload_n 0, 1), (162, .sipush 9000, 3), (165, .newarray .int, 2), (167, .putfield 66, 3), (170, .aload_n 0, 1), (171, .sipush 20000, 3), (174, .newarray .int, 2), (176, .putfield 69, 3), (179, .aload_n 0, 1), (180, .sipush 20000, 3), (183, .newarray .int, 2), (185, .putfield 72, 3), (188, .aload_n 0, 1), (189, .sipush 9000, 3), (192, .newarray .int, 2), (194, .putfield 75, 3), (197, .aload_n 0, 1), (198, .sipush 9000, 3), (201, .newarray .int, 2), (203, .putfield 78, 3), (206, .aload_n 0, 1), (207, .sipush 500, 3), (210, .newarray .int, 2), (212, .putfield 81, 3), (215, .aload_n 0, 1), (216, .sipush 500, 3), (219, .newarray .int, 2), (221, .putfield 84, 3), (224, .aload_n 0, 1), (225, .sipush 501, 3), (228, .newarray .int, 2), (230, .putfield 87, 3), (233, .aload_n 0, 1), (234, .sipush 501, 3), (237, .newarray .int, 2), (239, .putfield 90, 3), (242, .aload_n 0, 1), (243, .sipush 500, 3), (246, .newarray .int, 2), (248, .putfield 93, 3), (251, .aload_n 0, 1), (252, .sipush 500, 3), (255, .newarray .int, 2), (257, .putfield 96, 3), (260, .aload_n 0, 1), (261, .sipush 9000, 3), (264, .newarray .int, 2), (266, .putfield 99, 3), (269, .aload_n 0, 1), (270, .sipush 9000, 3), (273, .newarray .int, 2), (275, .putfield 102, 3), (278, .return_, 1)]
def pm_mm143 : pm_M := (⟨"LambdaShelfModel", "<init>", "()V"⟩, prog_11_method_1_code, 1, (Option.none : Option FieldType), 0, 9, true, 1076, pm_cc143)
def pm_cc144 : List (Nat × Instr × Nat) := [(0, .aload_n 0, 1), (1, .getfield 105, 3), (4, .bipush 20, 2), (6, .iadd, 1), (7, .sipush 600, 3), (10, .if_icmp .le 6, 3), (13, .bipush (-3), 2), (15, .ireturn, 1), (16, .aload_n 0, 1), (17, .iload_n 1, 1), (18, .invokevirtual 109, 3), (21, .aload_n 0, 1), (22, .iload_n 2, 1), (23, .invokevirtual 109, 3), (26, .aload_n 0, 1), (27, .iload_n 3, 1), (28, .invokevirtual 109, 3), (31, .aload_n 0, 1), (32, .iload 4, 2), (34, .invokevirtual 109, 3), (37, .aload_n 0, 1), (38, .iload 5, 2), (40, .invokevirtual 109, 3), (43, .aload_n 0, 1), (44, .getfield 105, 3), (47, .ireturn, 1)]
def pm_mm144 : pm_M := (⟨"LambdaShelfModel", "feed", "(IIIII)I"⟩, prog_11_method_5_code, 6, (Option.some FieldType.int), 5, 9, false, 1231, pm_cc144)
def pm_cc145 : List (Nat × Instr × Nat) := [(0, .bipush 24, 2), (2, .istore_n 2, 1), (3, .iload_n 2, 1), (4, .ifCond .lt 35, 3), (7, .aload_n 0, 1), (8, .getfield 16, 3), (11, .aload_n 0, 1), (12, .getfield 105, 3), (15, .iload_n 1, 1), (16, .iload_n 2, 1), (17, .ishr, 1), (18, .sipush 255, 3), (21, .iand, 1), (22, .iastore, 1), (23, .aload_n 0, 1), (24, .dup, 1), (25, .getfield 105, 3), (28, .iconst 1, 1), (29, .iadd, 1), (30, .putfield 105, 3), (33, .iinc 2 (-8), 3), (36, .goto (-33), 3), (39, .return_, 1)]
def pm_mm145 : pm_M := (⟨"LambdaShelfModel", "put", "(I)V"⟩, prog_11_method_4_code, 3, (Option.none : Option FieldType), 1, 9, false, 1235, pm_cc145)
def pm_cc146 : List (Nat × Instr × Nat) := [(0, .iload_n 1, 1), (1, .i2l, 1), (2, .lconst 0, 1), (3, .aload_n 0, 1), (4, .getfield 105, 3), (7, .i2l, 1), (8, .invokestatic 113, 3), (11, .ifCond .ne 5, 3), (14, .iconst (-1), 1), (15, .ireturn, 1), (16, .aload_n 0, 1), (17, .getfield 105, 3), (20, .istore_n 2, 1), (21, .aload_n 0, 1), (22, .iload_n 1, 1), (23, .putfield 105, 3), (26, .iload_n 2, 1), (27, .ireturn, 1)]
def pm_mm146 : pm_M := (⟨"LambdaShelfModel", "end", "(I)I"⟩, prog_11_method_6_code, 3, (Option.some FieldType.int), 1, 9, false, 1239, pm_cc146)
def pm_cc147 : List (Nat × Instr × Nat) := [(0, .lload_n 0, 1), (1, .lload_n 2, 1), (2, .lcmp, 1), (3, .ifCond .lt 14, 3), (6, .lload_n 0, 1), (7, .lload 4, 2), (9, .lcmp, 1), (10, .ifCond .gt 7, 3), (13, .iconst 1, 1), (14, .goto 4, 3), (17, .iconst 0, 1), (18, .ireturn, 1)]
def pm_mm147 : pm_M := (⟨"LambdaShelfModel", "in", "(JJJ)Z"⟩, prog_11_method_3_code, 6, (Option.some FieldType.boolean), 3, 9, false, 1242, pm_cc147)
def pm_cc148 : List (Nat × Instr × Nat) := [(0, .aload_n 0, 1), (1, .getfield 204, 3), (4, .bipush 32, 2), (6, .if_icmp .ne 6, 3), (9, .bipush (-3), 2), (11, .ireturn, 1), (12, .aload_n 0, 1), (13, .iconst 0, 1), (14, .putfield 120, 3), (17, .aload_n 0, 1), (18, .invokevirtual 207, 3), (21, .aload_n 0, 1), (22, .iconst 0, 1), (23, .putfield 105, 3), (26, .aload_n 0, 1), (27, .getfield 120, 3), (30, .ifCond .le 11, 3), (33, .bipush (-10), 2), (35, .aload_n 0, 1), (36, .getfield 123, 3), (39, .isub, 1), (40, .ireturn, 1), (41, .aload_n 0, 1), (42, .aload_n 0, 1), (43, .getfield 204, 3), (46, .invokevirtual 210, 3), (49, .aload_n 0, 1), (50, .dup, 1), (51, .getfield 204, 3), (54, .iconst 1, 1), (55, .iadd, 1), (56, .putfield 204, 3), (59, .aload_n 0, 1), (60, .getfield 204, 3), (63, .iconst 1, 1), (64, .isub, 1), (65, .ireturn, 1)]
def pm_mm148 : pm_M := (⟨"LambdaShelfModel", "term", "()I"⟩, prog_11_method_24_code, 1, (Option.some FieldType.int), 0, 9, false, 1246, pm_cc148)
def pm_cc149 : List (Nat × Instr × Nat) := [(0, .aload_n 0, 1), (1, .iconst 0, 1), (2, .putfield 126, 3), (5, .aload_n 0, 1), (6, .iconst 0, 1), (7, .putfield 117, 3), (10, .aload_n 0, 1), (11, .iconst 0, 1), (12, .putfield 167, 3), (15, .aload_n 0, 1), (16, .iconst 0, 1), (17, .putfield 179, 3), (20, .aload_n 0, 1), (21, .iconst 0, 1), (22, .putfield 182, 3), (25, .aload_n 0, 1), (26, .iconst (-1), 1), (27, .invokevirtual 189, 3), (30, .aload_n 0, 1), (31, .invokevirtual 176, 3), (34, .iconst 1, 1), (35, .istore_n 1, 1), (36, .iload_n 1, 1), (37, .ifCond .eq 262, 3), (40, .aload_n 0, 1), (41, .getfield 120, 3), (44, .ifCond .ne 255, 3), (47, .aload_n 0, 1), (48, .getfield 140, 3), (51, .iconst 1, 1), (52, .if_icmp .ne 10, 3), (55, .aload_n 0, 1), (56, .invokevirtual 192, 3), (59, .goto (-23), 3), (62, .aload_n 0, 1), (63, .getfield 140, 3), (66, .iconst 2, 1), (67, .if_icmp .ne 10, 3), (70, .aload_n 0, 1), (71, .invokevirtual 195, 3), (74, .goto (-38), 3), (77, .aload_n 0, 1), (78, .getfield 140, 3), (81, .iconst 3, 1), (82, .if_icmp .ne 23, 3), (85, .aload_n 0, 1), (86, .invokevirtual 170, 3), (89, .aload_n 0, 1), (90, .aload_n 0, 1), (91, .getfield 136, 3), (94, .l2i, 1), (95, .invokevirtual 173, 3), (98, .aload_n 0, 1), (99, .invokevirtual 176, 3), (102, .goto (-66), 3), (105, .aload_n 0, 1), (106, .bipush 40, 2), (108, .invokevirtual 185, 3), (111, .ifCond .eq 50, 3), (114, .aload_n 0, 1), (115, .getfield 182, 3), (118, .bipush 40, 2), (120, .if_icmp .ne 15, 3), (123, .aload_n 0, 1), (124, .iconst 4, 1), (125, .aload_n 0, 1), (126, .getfield 133, 3), (129, .invokevirtual 151, 3), (132, .goto (-96), 3), (135, .aload_n 0, 1), (136, .dup, 1), (137, .getfield 182, 3), (140, .iconst 1, 1), (141, .iadd, 1), (142, .putfield 182, 3), (145, .aload_n 0, 1), (146, .invokevirtual 170, 3), (149, .aload_n 0, 1), (150, .iconst 0, 1), (151, .invokevirtual 189, 3), (154, .aload_n 0, 1), (155, .invokevirtual 176, 3), (158, .goto (-122), 3), (161, .aload_n 0, 1), (162, .bipush 92, 2), (164, .invokevirtual 185, 3), (167, .ifCond .eq 10, 3), (170, .aload_n 0, 1), (171, .invokevirtual 198, 3), (174, .goto (-138), 3), (177, .aload_n 0, 1), (178, .bipush 41, 2), (180, .invokevirtual 185, 3), (183, .ifCond .ne 10, 3), (186, .aload_n 0, 1), (187, .getfield 140, 3), (190, .ifCond .ne 97, 3), (193, .aload_n 0, 1), (194, .invokevirtual 201, 3), (197, .aload_n 0, 1), (198, .getfield 140, 3), (201, .ifCond .eq 7, 3), (204, .iconst 1, 1), (205, .goto 4, 3), (208, .iconst 0, 1), (209, .istore_n 1, 1), (210, .aload_n 0, 1), (211, .getfield 120, 3), (214, .ifCond .ne 35, 3), (217, .aload_n 0, 1), (218, .getfield 35, 3), (221, .aload_n 0, 1), (222, .getfield 167, 3), (225, .iconst 1, 1), (226, .isub, 1), (227, .iaload, 1), (228, .ifCond .ge 7, 3), (231, .iconst 1, 1), (232, .goto 4, 3), (235, .iconst 0, 1), (236, .iload_n 1, 1), (237, .if_icmp .ne 12, 3), (240, .aload_n 0, 1), (241, .iconst 2, 1), (242, .aload_n 0, 1), (243, .getfield 133, 3), (246, .invokevirtual 151, 3), (249, .aload_n 0, 1), (250, .getfield 120, 3), (253, .ifCond .ne (-217), 3), (256, .iload_n 1, 1), (257, .ifCond .eq (-221), 3), (260, .aload_n 0, 1), (261, .dup, 1), (262, .getfield 167, 3), (265, .iconst 1, 1), (266, .isub, 1), (267, .putfield 167, 3), (270, .aload_n 0, 1), (271, .dup, 1), (272, .getfield 182, 3), (275, .iconst 1, 1), (276, .isub, 1), (277, .putfield 182, 3), (280, .aload_n 0, 1), (281, .invokevirtual 176, 3), (284, .goto (-248), 3), (287, .aload_n 0, 1), (288, .iconst 2, 1), (289, .aload_n 0, 1), (290, .getfield 133, 3), (293, .invokevirtual 151, 3), (296, .goto (-260), 3), (299, .aload_n 0, 1), (300, .getfield 120, 3), (303, .ifCond .ne 19, 3), (306, .aload_n 0, 1), (307, .getfield 117, 3), (310, .sipush 500, 3), (313, .if_icmp .le 9, 3), (316, .aload_n 0, 1), (317, .iconst 5, 1), (318, .iconst 0, 1), (319, .invokevirtual 151, 3), (322, .return_, 1)]
def pm_mm149 : pm_M := (⟨"LambdaShelfModel", "readTerm", "()V"⟩, prog_11_method_23_code, 2, (Option.none : Option FieldType), 0, 9, false, 1250, pm_cc149)
def pm_cc150 : List (Nat × Instr × Nat) := [(0, .aload_n 0, 1), (1, .getfield 28, 3), (4, .aload_n 0, 1), (5, .getfield 167, 3), (8, .aload_n 0, 1), (9, .getfield 117, 3), (12, .iastore, 1), (13, .aload_n 0, 1), (14, .getfield 31, 3), (17, .aload_n 0, 1), (18, .getfield 167, 3), (21, .iconst 0, 1), (22, .bastore, 1), (23, .aload_n 0, 1), (24, .getfield 35, 3), (27, .aload_n 0, 1), (28, .getfield 167, 3), (31, .iload_n 1, 1), (32, .iastore, 1), (33, .aload_n 0, 1), (34, .dup, 1), (35, .getfield 167, 3), (38, .iconst 1, 1), (39, .iadd, 1), (40, .putfield 167, 3), (43, .return_, 1)]
def pm_mm150 : pm_M := (⟨"LambdaShelfModel", "level", "(I)V"⟩, prog_11_method_16_code, 2, (Option.none : Option FieldType), 1, 9, false, 1254, pm_cc150)
def pm_cc151 : List (Nat × Instr × Nat) := [(0, .aload_n 0, 1), (1, .invokevirtual 129, 3), (4, .bipush 32, 2), (6, .if_icmp .ne 16, 3), (9, .aload_n 0, 1), (10, .dup, 1), (11, .getfield 126, 3), (14, .iconst 1, 1), (15, .iadd, 1), (16, .putfield 126, 3), (19, .goto (-19), 3), (22, .aload_n 0, 1), (23, .aload_n 0, 1), (24, .getfield 126, 3), (27, .putfield 133, 3), (30, .aload_n 0, 1), (31, .lconst 0, 1), (32, .putfield 136, 3), (35, .aload_n 0, 1), (36, .invokevirtual 129, 3), (39, .istore_n 1, 1), (40, .iload_n 1, 1), (41, .ifCond .ge 11, 3), (44, .aload_n 0, 1), (45, .iconst 0, 1), (46, .putfield 140, 3), (49, .goto 341, 3), (52, .iload_n 1, 1), (53, .i2l, 1), (54, .ldc2_w 143, 3), (57, .ldc2_w 145, 3), (60, .invokestatic 113, 3), (63, .ifCond .eq 107, 3), (66, .aload_n 0, 1), (67, .iconst 1, 1), (68, .putfield 140, 3), (71, .aload_n 0, 1), (72, .invokevirtual 129, 3), (75, .i2l, 1), (76, .ldc2_w 143, 3), (79, .ldc2_w 145, 3), (82, .invokestatic 113, 3), (85, .ifCond .eq 59, 3), (88, .aload_n 0, 1), (89, .aload_n 0, 1), (90, .getfield 126, 3), (93, .aload_n 0, 1), (94, .getfield 133, 3), (97, .isub, 1), (98, .bipush 8, 2), (100, .if_icmp .ge 24, 3), (103, .ldc2_w 147, 3), (106, .aload_n 0, 1), (107, .getfield 136, 3), (110, .lmul, 1), (111, .aload_n 0, 1), (112, .invokevirtual 129, 3), (115, .i2l, 1), (116, .ladd, 1), (117, .ldc2_w 149, 3), (120, .lsub, 1), (121, .goto 7, 3), (124, .aload_n 0, 1), (125, .getfield 136, 3), (128, .putfield 136, 3), (131, .aload_n 0, 1), (132, .dup, 1), (133, .getfield 126, 3), (136, .iconst 1, 1), (137, .iadd, 1), (138, .putfield 126, 3), (141, .goto (-70), 3), (144, .aload_n 0, 1), (145, .getfield 126, 3), (148, .aload_n 0, 1), (149, .getfield 133, 3), (152, .isub, 1), (153, .bipush 8, 2), (155, .if_icmp .le 235, 3), (158, .aload_n 0, 1), (159, .iconst 1, 1), (160, .aload_n 0, 1), (161, .getfield 133, 3), (164, .invokevirtual 151, 3), (167, .goto 223, 3), (170, .iload_n 1, 1), (171, .i2l, 1), (172, .ldc2_w 155, 3), (175, .ldc2_w 157, 3), (178, .invokestatic 113, 3), (181, .ifCond .eq 116, 3), (184, .aload_n 0, 1), (185, .iconst 2, 1), (186, .putfield 140, 3), (189, .aload_n 0, 1), (190, .invokevirtual 129, 3), (193, .i2l, 1), (194, .ldc2_w 155, 3), (197, .ldc2_w 157, 3), (200, .invokestatic 113, 3), (203, .ifCond .eq 58, 3), (206, .aload_n 0, 1), (207, .aload_n 0, 1), (208, .getfield 126, 3), (211, .aload_n 0, 1), (212, .getfield 133, 3), (215, .isub, 1), (216, .iconst 2, 1), (217, .if_icmp .ge 24, 3), (220, .ldc2_w 159, 3), (223, .aload_n 0, 1), (224, .getfield 136, 3), (227, .lmul, 1), (228, .aload_n 0, 1), (229, .invokevirtual 129, 3), (232, .i2l, 1), (233, .ladd, 1), (234, .ldc2_w 155, 3), (237, .lsub, 1), (238, .goto 7, 3), (241, .aload_n 0, 1), (242, .getfield 136, 3), (245, .putfield 136, 3), (248, .aload_n 0, 1), (249, .dup, 1), (250, .getfield 126, 3), (253, .iconst 1, 1), (254, .iadd, 1), (255, .putfield 126, 3), (258, .goto (-69), 3), (261, .aload_n 0, 1), (262, .getfield 126, 3), (265, .aload_n 0, 1), (266, .getfield 133, 3), (269, .isub, 1), (270, .iconst 2, 1), (271, .if_icmp .gt 14, 3), (274, .aload_n 0, 1), (275, .getfield 136, 3), (278, .ldc2_w 161, 3), (281, .lcmp, 1), (282, .ifCond .le 108, 3), (285, .aload_n 0, 1), (286, .iconst 1, 1), (287, .aload_n 0, 1), (288, .getfield 133, 3), (291, .invokevirtual 151, 3), (294, .goto 96, 3), (297, .iload_n 1, 1), (298, .invokestatic 163, 3), (301, .bipush (-4), 2), (303, .if_icmp .eq 30, 3), (306, .aload_n 0, 1), (307, .iconst 3, 1), (308, .putfield 140, 3), (311, .aload_n 0, 1), (312, .iload_n 1, 1), (313, .invokestatic 163, 3), (316, .i2l, 1), (317, .putfield 136, 3), (320, .aload_n 0, 1), (321, .dup, 1), (322, .getfield 126, 3), (325, .iconst 1, 1), (326, .iadd, 1), (327, .putfield 126, 3), (330, .goto 60, 3), (333, .iload_n 1, 1), (334, .bipush 40, 2), (336, .if_icmp .eq 21, 3), (339, .iload_n 1, 1), (340, .bipush 41, 2), (342, .if_icmp .eq 15, 3), (345, .iload_n 1, 1), (346, .bipush 92, 2), (348, .if_icmp .eq 9, 3), (351, .iload_n 1, 1), (352, .bipush 46, 2), (354, .if_icmp .ne 27, 3), (357, .aload_n 0, 1), (358, .iconst 4, 1), (359, .putfield 140, 3), (362, .aload_n 0, 1), (363, .iload_n 1, 1), (364, .i2l, 1), (365, .putfield 136, 3), (368, .aload_n 0, 1), (369, .dup, 1), (370, .getfield 126, 3), (373, .iconst 1, 1), (374, .iadd, 1), (375, .putfield 126, 3), (378, .goto 12, 3), (381, .aload_n 0, 1), (382, .iconst 1, 1), (383, .aload_n 0, 1), (384, .getfield 133, 3), (387, .invokevirtual 151, 3), (390, .return_, 1)]
def pm_mm151 : pm_M := (⟨"LambdaShelfModel", "next", "()V"⟩, prog_11_method_14_code, 2, (Option.none : Option FieldType), 0, 9, false, 1258, pm_cc151)
def pm_cc152 : List (Nat × Instr × Nat) := [(0, .aload_n 0, 1), (1, .getfield 126, 3), (4, .aload_n 0, 1), (5, .getfield 105, 3), (8, .if_icmp .ge 15, 3), (11, .aload_n 0, 1), (12, .getfield 16, 3), (15, .aload_n 0, 1), (16, .getfield 126, 3), (19, .iaload, 1), (20, .goto 4, 3), (23, .iconst (-1), 1), (24, .ireturn, 1)]
def pm_mm152 : pm_M := (⟨"LambdaShelfModel", "look", "()I"⟩, prog_11_method_12_code, 1, (Option.some FieldType.int), 0, 9, false, 1262, pm_cc152)
def pm_cc153 : List (Nat × Instr × Nat) := [(0, .aload_n 0, 1), (1, .getfield 120, 3), (4, .ifCond .ne 13, 3), (7, .aload_n 0, 1), (8, .iload_n 1, 1), (9, .putfield 120, 3), (12, .aload_n 0, 1), (13, .iload_n 2, 1), (14, .putfield 123, 3), (17, .return_, 1)]
def pm_mm153 : pm_M := (⟨"LambdaShelfModel", "fails", "(II)V"⟩, prog_11_method_11_code, 3, (Option.none : Option FieldType), 2, 9, false, 1270, pm_cc153)
def pm_cc154 : List (Nat × Instr × Nat) := [(0, .iload_n 0, 1), (1, .bipush 83, 2), (3, .if_icmp .ne 7, 3), (6, .iconst 2, 1), (7, .goto 46, 3), (10, .iload_n 0, 1), (11, .bipush 75, 2), (13, .if_icmp .ne 7, 3), (16, .iconst 3, 1), (17, .goto 36, 3), (20, .iload_n 0, 1), (21, .bipush 73, 2), (23, .if_icmp .ne 7, 3), (26, .iconst 4, 1), (27, .goto 26, 3), (30, .iload_n 0, 1), (31, .bipush 70, 2), (33, .if_icmp .ne 7, 3), (36, .iconst 5, 1), (37, .goto 16, 3), (40, .iload_n 0, 1), (41, .bipush 88, 2), (43, .if_icmp .ne 8, 3), (46, .bipush 6, 2), (48, .goto 5, 3), (51, .bipush (-4), 2), (53, .ireturn, 1)]
def pm_mm154 : pm_M := (⟨"LambdaShelfModel", "letterOf", "(I)I"⟩, prog_11_method_13_code, 1, (Option.some FieldType.int), 1, 9, false, 1277, pm_cc154)
def pm_cc155 : List (Nat × Instr × Nat) := [(0, .aload_n 0, 1), (1, .getfield 179, 3), (4, .iconst 1, 1), (5, .isub, 1), (6, .istore_n 1, 1), (7, .iload_n 1, 1), (8, .ifCond .lt 23, 3), (11, .aload_n 0, 1), (12, .getfield 38, 3), (15, .iload_n 1, 1), (16, .laload, 1), (17, .aload_n 0, 1), (18, .getfield 136, 3), (21, .lcmp, 1), (22, .ifCond .eq 9, 3), (25, .iinc 1 (-1), 3), (28, .goto (-21), 3), (31, .iload_n 1, 1), (32, .ifCond .ge 15, 3), (35, .aload_n 0, 1), (36, .iconst 3, 1), (37, .aload_n 0, 1), (38, .getfield 133, 3), (41, .invokevirtual 151, 3), (44, .goto 26, 3), (47, .aload_n 0, 1), (48, .invokevirtual 170, 3), (51, .aload_n 0, 1), (52, .bipush 10, 2), (54, .aload_n 0, 1), (55, .getfield 179, 3), (58, .iadd, 1), (59, .iconst 1, 1), (60, .isub, 1), (61, .iload_n 1, 1), (62, .isub, 1), (63, .invokevirtual 173, 3), (66, .aload_n 0, 1), (67, .invokevirtual 176, 3), (70, .return_, 1)]
def pm_mm155 : pm_M := (⟨"LambdaShelfModel", "readName", "()V"⟩, prog_11_method_20_code, 2, (Option.none : Option FieldType), 0, 9, false, 1281, pm_cc155)
def pm_cc156 : List (Nat × Instr × Nat) := [(0, .aload_n 0, 1), (1, .getfield 167, 3), (4, .iconst 1, 1), (5, .isub, 1), (6, .istore_n 1, 1), (7, .aload_n 0, 1), (8, .getfield 31, 3), (11, .iload_n 1, 1), (12, .baload, 1), (13, .ifCond .eq 60, 3), (16, .aload_n 0, 1), (17, .getfield 117, 3), (20, .istore_n 2, 1), (21, .iload_n 2, 1), (22, .aload_n 0, 1), (23, .getfield 28, 3), (26, .iload_n 1, 1), (27, .iaload, 1), (28, .if_icmp .le 23, 3), (31, .aload_n 0, 1), (32, .getfield 19, 3), (35, .iload_n 2, 1), (36, .aload_n 0, 1), (37, .getfield 19, 3), (40, .iload_n 2, 1), (41, .iconst 1, 1), (42, .isub, 1), (43, .iaload, 1), (44, .iastore, 1), (45, .iinc 2 (-1), 3), (48, .goto (-27), 3), (51, .aload_n 0, 1), (52, .getfield 19, 3), (55, .aload_n 0, 1), (56, .getfield 28, 3), (59, .iload_n 1, 1), (60, .iaload, 1), (61, .iconst 0, 1), (62, .iastore, 1), (63, .aload_n 0, 1), (64, .dup, 1), (65, .getfield 117, 3), (68, .iconst 1, 1), (69, .iadd, 1), (70, .putfield 117, 3), (73, .aload_n 0, 1), (74, .getfield 31, 3), (77, .iload_n 1, 1), (78, .iconst 1, 1), (79, .bastore, 1), (80, .return_, 1)]
def pm_mm156 : pm_M := (⟨"LambdaShelfModel", "part", "()V"⟩, prog_11_method_17_code, 3, (Option.none : Option FieldType), 0, 9, false, 1285, pm_cc156)
def pm_cc157 : List (Nat × Instr × Nat) := [(0, .aload_n 0, 1), (1, .getfield 19, 3), (4, .aload_n 0, 1), (5, .getfield 117, 3), (8, .iload_n 1, 1), (9, .iastore, 1), (10, .aload_n 0, 1), (11, .dup, 1), (12, .getfield 117, 3), (15, .iconst 1, 1), (16, .iadd, 1), (17, .putfield 117, 3), (20, .return_, 1)]
def pm_mm157 : pm_M := (⟨"LambdaShelfModel", "lay", "(I)V"⟩, prog_11_method_18_code, 2, (Option.none : Option FieldType), 1, 9, false, 1289, pm_cc157)
def pm_cc158 : List (Nat × Instr × Nat) := [(0, .aload_n 0, 1), (1, .invokevirtual 170, 3), (4, .aload_n 0, 1), (5, .iconst 1, 1), (6, .invokevirtual 173, 3), (9, .aload_n 0, 1), (10, .iconst 1, 1), (11, .invokevirtual 173, 3), (14, .iconst 0, 1), (15, .istore_n 1, 1), (16, .iload_n 1, 1), (17, .i2l, 1), (18, .aload_n 0, 1), (19, .getfield 136, 3), (22, .lcmp, 1), (23, .ifCond .ge 20, 3), (26, .aload_n 0, 1), (27, .iconst 0, 1), (28, .invokevirtual 173, 3), (31, .aload_n 0, 1), (32, .bipush 11, 2), (34, .invokevirtual 173, 3), (37, .iinc 1 1, 3), (40, .goto (-24), 3), (43, .aload_n 0, 1), (44, .bipush 10, 2), (46, .invokevirtual 173, 3), (49, .aload_n 0, 1), (50, .invokevirtual 176, 3), (53, .return_, 1)]
def pm_mm158 : pm_M := (⟨"LambdaShelfModel", "readNumber", "()V"⟩, prog_11_method_19_code, 2, (Option.none : Option FieldType), 0, 9, false, 1293, pm_cc158)
def pm_cc159 : List (Nat × Instr × Nat) := [(0, .aload_n 0, 1), (1, .getfield 140, 3), (4, .iconst 4, 1), (5, .if_icmp .ne 17, 3), (8, .aload_n 0, 1), (9, .getfield 136, 3), (12, .iload_n 1, 1), (13, .i2l, 1), (14, .lcmp, 1), (15, .ifCond .ne 7, 3), (18, .iconst 1, 1), (19, .goto 4, 3), (22, .iconst 0, 1), (23, .ireturn, 1)]
def pm_mm159 : pm_M := (⟨"LambdaShelfModel", "isSign", "(I)Z"⟩, prog_11_method_15_code, 2, (Option.some FieldType.boolean), 1, 9, false, 1297, pm_cc159)
def pm_cc160 : List (Nat × Instr × Nat) := [(0, .aload_n 0, 1), (1, .invokevirtual 170, 3), (4, .aload_n 0, 1), (5, .invokevirtual 176, 3), (8, .iconst 0, 1), (9, .istore_n 1, 1), (10, .aload_n 0, 1), (11, .getfield 120, 3), (14, .ifCond .ne 20, 3), (17, .aload_n 0, 1), (18, .getfield 140, 3), (21, .iconst 1, 1), (22, .if_icmp .eq 12, 3), (25, .aload_n 0, 1), (26, .iconst 2, 1), (27, .aload_n 0, 1), (28, .getfield 133, 3), (31, .invokevirtual 151, 3), (34, .aload_n 0, 1), (35, .getfield 120, 3), (38, .ifCond .ne 80, 3), (41, .aload_n 0, 1), (42, .getfield 140, 3), (45, .iconst 1, 1), (46, .if_icmp .ne 72, 3), (49, .aload_n 0, 1), (50, .getfield 182, 3), (53, .bipush 40, 2), (55, .if_icmp .ne 15, 3), (58, .aload_n 0, 1), (59, .iconst 4, 1), (60, .aload_n 0, 1), (61, .getfield 133, 3), (64, .invokevirtual 151, 3), (67, .goto (-33), 3), (70, .aload_n 0, 1), (71, .dup, 1), (72, .getfield 182, 3), (75, .iconst 1, 1), (76, .iadd, 1), (77, .putfield 182, 3), (80, .aload_n 0, 1), (81, .getfield 38, 3), (84, .aload_n 0, 1), (85, .getfield 179, 3), (88, .aload_n 0, 1), (89, .getfield 136, 3), (92, .lastore, 1), (93, .aload_n 0, 1), (94, .dup, 1), (95, .getfield 179, 3), (98, .iconst 1, 1), (99, .iadd, 1), (100, .putfield 179, 3), (103, .iinc 1 1, 3), (106, .aload_n 0, 1), (107, .iconst 1, 1), (108, .invokevirtual 173, 3), (111, .aload_n 0, 1), (112, .invokevirtual 176, 3), (115, .goto (-81), 3), (118, .aload_n 0, 1), (119, .getfield 120, 3), (122, .ifCond .ne 33, 3), (125, .aload_n 0, 1), (126, .bipush 46, 2), (128, .invokevirtual 185, 3), (131, .ifCond .eq 15, 3), (134, .aload_n 0, 1), (135, .iload_n 1, 1), (136, .invokevirtual 189, 3), (139, .aload_n 0, 1), (140, .invokevirtual 176, 3), (143, .goto 12, 3), (146, .aload_n 0, 1), (147, .iconst 2, 1), (148, .aload_n 0, 1), (149, .getfield 133, 3), (152, .invokevirtual 151, 3), (155, .return_, 1)]
def pm_mm160 : pm_M := (⟨"LambdaShelfModel", "readLambda", "()V"⟩, prog_11_method_21_code, 2, (Option.none : Option FieldType), 0, 9, false, 1301, pm_cc160)
def pm_cc161 : List (Nat × Instr × Nat) := [(0, .aload_n 0, 1), (1, .getfield 120, 3), (4, .ifCond .ne 96, 3), (7, .aload_n 0, 1), (8, .getfield 35, 3), (11, .aload_n 0, 1), (12, .getfield 167, 3), (15, .iconst 1, 1), (16, .isub, 1), (17, .iaload, 1), (18, .ifCond .le 82, 3), (21, .aload_n 0, 1), (22, .getfield 31, 3), (25, .aload_n 0, 1), (26, .getfield 167, 3), (29, .iconst 1, 1), (30, .isub, 1), (31, .baload, 1), (32, .ifCond .ne 15, 3), (35, .aload_n 0, 1), (36, .iconst 2, 1), (37, .aload_n 0, 1), (38, .getfield 133, 3), (41, .invokevirtual 151, 3), (44, .goto (-44), 3), (47, .aload_n 0, 1), (48, .dup, 1), (49, .getfield 179, 3), (52, .aload_n 0, 1), (53, .getfield 35, 3), (56, .aload_n 0, 1), (57, .getfield 167, 3), (60, .iconst 1, 1), (61, .isub, 1), (62, .iaload, 1), (63, .isub, 1), (64, .putfield 179, 3), (67, .aload_n 0, 1), (68, .dup, 1), (69, .getfield 182, 3), (72, .aload_n 0, 1), (73, .getfield 35, 3), (76, .aload_n 0, 1), (77, .getfield 167, 3), (80, .iconst 1, 1), (81, .isub, 1), (82, .iaload, 1), (83, .isub, 1), (84, .putfield 182, 3), (87, .aload_n 0, 1), (88, .dup, 1), (89, .getfield 167, 3), (92, .iconst 1, 1), (93, .isub, 1), (94, .putfield 167, 3), (97, .goto (-97), 3), (100, .aload_n 0, 1), (101, .getfield 120, 3), (104, .ifCond .ne 26, 3), (107, .aload_n 0, 1), (108, .getfield 31, 3), (111, .aload_n 0, 1), (112, .getfield 167, 3), (115, .iconst 1, 1), (116, .isub, 1), (117, .baload, 1), (118, .ifCond .ne 12, 3), (121, .aload_n 0, 1), (122, .iconst 2, 1), (123, .aload_n 0, 1), (124, .getfield 133, 3), (127, .invokevirtual 151, 3), (130, .return_, 1)]
def pm_mm161 : pm_M := (⟨"LambdaShelfModel", "closes", "()V"⟩, prog_11_method_22_code, 1, (Option.none : Option FieldType), 0, 9, false, 1305, pm_cc161)
def pm_cc162 : List (Nat × Instr × Nat) := [(0, .aload_n 0, 1), (1, .getfield 7, 3), (4, .iload_n 1, 1), (5, .aload_n 0, 1), (6, .getfield 117, 3), (9, .iastore, 1), (10, .iconst 0, 1), (11, .istore_n 2, 1), (12, .iload_n 2, 1), (13, .aload_n 0, 1), (14, .getfield 117, 3), (17, .if_icmp .ge 27, 3), (20, .aload_n 0, 1), (21, .getfield 13, 3), (24, .sipush 500, 3), (27, .iload_n 1, 1), (28, .imul, 1), (29, .iload_n 2, 1), (30, .iadd, 1), (31, .aload_n 0, 1), (32, .getfield 19, 3), (35, .iload_n 2, 1), (36, .iaload, 1), (37, .iastore, 1), (38, .iinc 2 1, 3), (41, .goto (-29), 3), (44, .return_, 1)]
def pm_mm162 : pm_M := (⟨"LambdaShelfModel", "keep", "(I)V"⟩, prog_11_method_8_code, 3, (Option.none : Option FieldType), 1, 9, false, 1309, pm_cc162)
def pm_cc163 : List (Nat × Instr × Nat) := [(0, .aload_n 0, 1), (1, .getfield 120, 3), (4, .ireturn, 1)]
def pm_mm163 : pm_M := (⟨"LambdaShelfModel", "fault", "()I"⟩, prog_11_method_25_code, 1, (Option.some FieldType.int), 0, 9, false, 1313, pm_cc163)
def pm_cc164 : List (Nat × Instr × Nat) := [(0, .aload_n 0, 1), (1, .iload_n 1, 1), (2, .invokevirtual 213, 3), (5, .ifCond .eq 12, 3), (8, .aload_n 0, 1), (9, .getfield 7, 3), (12, .iload_n 1, 1), (13, .iaload, 1), (14, .goto 4, 3), (17, .iconst (-1), 1), (18, .ireturn, 1)]
def pm_mm164 : pm_M := (⟨"LambdaShelfModel", "size", "(I)I"⟩, prog_11_method_27_code, 2, (Option.some FieldType.int), 1, 9, false, 1317, pm_cc164)
def pm_cc165 : List (Nat × Instr × Nat) := [(0, .iload_n 1, 1), (1, .i2l, 1), (2, .lconst 0, 1), (3, .aload_n 0, 1), (4, .getfield 204, 3), (7, .iconst 1, 1), (8, .isub, 1), (9, .i2l, 1), (10, .invokestatic 113, 3), (13, .ireturn, 1)]
def pm_mm165 : pm_M := (⟨"LambdaShelfModel", "isTerm", "(I)Z"⟩, prog_11_method_26_code, 2, (Option.some FieldType.boolean), 1, 9, false, 1321, pm_cc165)
def pm_cc166 : List (Nat × Instr × Nat) := [(0, .aload_n 0, 1), (1, .iload_n 1, 1), (2, .invokevirtual 213, 3), (5, .ifCond .eq 36, 3), (8, .iload_n 2, 1), (9, .i2l, 1), (10, .lconst 0, 1), (11, .aload_n 0, 1), (12, .getfield 7, 3), (15, .iload_n 1, 1), (16, .iaload, 1), (17, .iconst 1, 1), (18, .isub, 1), (19, .i2l, 1), (20, .invokestatic 113, 3), (23, .ifCond .eq 18, 3), (26, .aload_n 0, 1), (27, .getfield 13, 3), (30, .sipush 500, 3), (33, .iload_n 1, 1), (34, .imul, 1), (35, .iload_n 2, 1), (36, .iadd, 1), (37, .iaload, 1), (38, .goto 4, 3), (41, .iconst (-1), 1), (42, .ireturn, 1)]
def pm_mm166 : pm_M := (⟨"LambdaShelfModel", "code", "(II)I"⟩, prog_11_method_28_code, 3, (Option.some FieldType.int), 2, 9, false, 1325, pm_cc166)
def pm_cc167 : List (Nat × Instr × Nat) := [(0, .aload_n 0, 1), (1, .iload_n 1, 1), (2, .invokevirtual 213, 3), (5, .ifCond .ne 5, 3), (8, .iconst (-1), 1), (9, .ireturn, 1), (10, .aload_n 0, 1), (11, .iload_n 1, 1), (12, .invokevirtual 231, 3), (15, .aload_n 0, 1), (16, .invokevirtual 234, 3), (19, .iload_n 2, 1), (20, .i2l, 1), (21, .lconst 0, 1), (22, .aload_n 0, 1), (23, .getfield 216, 3), (26, .i2l, 1), (27, .invokestatic 113, 3), (30, .ifCond .ne 5, 3), (33, .iconst (-1), 1), (34, .ireturn, 1), (35, .iload_n 2, 1), (36, .aload_n 0, 1), (37, .getfield 216, 3), (40, .if_icmp .ne 7, 3), (43, .iconst 0, 1), (44, .goto 9, 3), (47, .aload_n 0, 1), (48, .getfield 42, 3), (51, .iload_n 2, 1), (52, .iaload, 1), (53, .ireturn, 1)]
def pm_mm167 : pm_M := (⟨"LambdaShelfModel", "letter", "(II)I"⟩, prog_11_method_32_code, 3, (Option.some FieldType.int), 2, 9, false, 1329, pm_cc167)
def pm_cc168 : List (Nat × Instr × Nat) := [(0, .aload_n 0, 1), (1, .aload_n 0, 1), (2, .getfield 7, 3), (5, .iload_n 1, 1), (6, .iaload, 1), (7, .putfield 117, 3), (10, .iconst 0, 1), (11, .istore_n 2, 1), (12, .iload_n 2, 1), (13, .aload_n 0, 1), (14, .getfield 117, 3), (17, .if_icmp .ge 27, 3), (20, .aload_n 0, 1), (21, .getfield 19, 3), (24, .iload_n 2, 1), (25, .aload_n 0, 1), (26, .getfield 13, 3), (29, .sipush 500, 3), (32, .iload_n 1, 1), (33, .imul, 1), (34, .iload_n 2, 1), (35, .iadd, 1), (36, .iaload, 1), (37, .iastore, 1), (38, .iinc 2 1, 3), (41, .goto (-29), 3), (44, .return_, 1)]
def pm_mm168 : pm_M := (⟨"LambdaShelfModel", "take", "(I)V"⟩, prog_11_method_7_code, 3, (Option.none : Option FieldType), 1, 9, false, 1333, pm_cc168)
def pm_cc169 : List (Nat × Instr × Nat) := [(0, .iconst 0, 1), (1, .istore_n 1, 1), (2, .iload_n 1, 1), (3, .aload_n 0, 1), (4, .getfield 117, 3), (7, .if_icmp .gt 30, 3), (10, .aload_n 0, 1), (11, .getfield 45, 3), (14, .iload_n 1, 1), (15, .iconst 0, 1), (16, .bastore, 1), (17, .aload_n 0, 1), (18, .getfield 48, 3), (21, .iload_n 1, 1), (22, .iconst 0, 1), (23, .bastore, 1), (24, .aload_n 0, 1), (25, .getfield 51, 3), (28, .iload_n 1, 1), (29, .iconst 0, 1), (30, .iastore, 1), (31, .iinc 1 1, 3), (34, .goto (-32), 3), (37, .iconst 0, 1), (38, .istore_n 1, 1), (39, .iload_n 1, 1), (40, .aload_n 0, 1), (41, .getfield 117, 3), (44, .if_icmp .ge 95, 3), (47, .aload_n 0, 1), (48, .getfield 19, 3), (51, .iload_n 1, 1), (52, .iaload, 1), (53, .ifCond .ne 80, 3), (56, .aload_n 0, 1), (57, .iload_n 1, 1), (58, .iconst 1, 1), (59, .iadd, 1), (60, .invokevirtual 222, 3), (63, .istore_n 2, 1), (64, .aload_n 0, 1), (65, .getfield 45, 3), (68, .iload_n 2, 1), (69, .iconst 1, 1), (70, .bastore, 1), (71, .aload_n 0, 1), (72, .getfield 19, 3), (75, .iload_n 1, 1), (76, .iconst 1, 1), (77, .iadd, 1), (78, .iaload, 1), (79, .iconst 1, 1), (80, .if_icmp .ne 22, 3), (83, .aload_n 0, 1), (84, .getfield 48, 3), (87, .iload_n 1, 1), (88, .iconst 1, 1), (89, .iadd, 1), (90, .iconst 1, 1), (91, .bastore, 1), (92, .aload_n 0, 1), (93, .getfield 51, 3), (96, .iload_n 2, 1), (97, .dup2, 1), (98, .iaload, 1), (99, .iconst 1, 1), (100, .iadd, 1), (101, .iastore, 1), (102, .aload_n 0, 1), (103, .getfield 19, 3), (106, .iload_n 2, 1), (107, .iaload, 1), (108, .iconst 2, 1), (109, .if_icmp .ge 24, 3), (112, .aload_n 0, 1), (113, .getfield 48, 3), (116, .iload_n 2, 1), (117, .iconst 1, 1), (118, .bastore, 1), (119, .aload_n 0, 1), (120, .getfield 51, 3), (123, .aload_n 0, 1), (124, .iload_n 2, 1), (125, .invokevirtual 222, 3), (128, .dup2, 1), (129, .iaload, 1), (130, .iconst 1, 1), (131, .iadd, 1), (132, .iastore, 1), (133, .iinc 1 1, 3), (136, .goto (-97), 3), (139, .aload_n 0, 1), (140, .iconst 0, 1), (141, .invokevirtual 225, 3), (144, .aload_n 0, 1), (145, .iconst 0, 1), (146, .putfield 216, 3), (149, .iconst 0, 1), (150, .istore_n 1, 1), (151, .iload_n 1, 1), (152, .aload_n 0, 1), (153, .getfield 117, 3), (156, .if_icmp .gt 188, 3), (159, .iconst 0, 1), (160, .istore_n 2, 1), (161, .iload_n 2, 1), (162, .aload_n 0, 1), (163, .getfield 51, 3), (166, .iload_n 1, 1), (167, .iaload, 1), (168, .if_icmp .ge 15, 3), (171, .aload_n 0, 1), (172, .bipush 41, 2), (174, .invokevirtual 219, 3), (177, .iinc 2 1, 3), (180, .goto (-19), 3), (183, .aload_n 0, 1), (184, .getfield 45, 3), (187, .iload_n 1, 1), (188, .baload, 1), (189, .ifCond .eq 9, 3), (192, .aload_n 0, 1), (193, .bipush 32, 2), (195, .invokevirtual 219, 3), (198, .aload_n 0, 1), (199, .getfield 48, 3), (202, .iload_n 1, 1), (203, .baload, 1), (204, .ifCond .eq 9, 3), (207, .aload_n 0, 1), (208, .bipush 40, 2), (210, .invokevirtual 219, 3), (213, .iload_n 1, 1), (214, .aload_n 0, 1), (215, .getfield 117, 3), (218, .if_icmp .ge 12, 3), (221, .aload_n 0, 1), (222, .getfield 19, 3), (225, .iload_n 1, 1), (226, .iaload, 1), (227, .goto 4, 3), (230, .iconst 0, 1), (231, .istore_n 2, 1), (232, .iload_n 2, 1), (233, .iconst 1, 1), (234, .if_icmp .ne 28, 3), (237, .aload_n 0, 1), (238, .bipush 92, 2), (240, .invokevirtual 219, 3), (243, .aload_n 0, 1), (244, .aload_n 0, 1), (245, .getfield 22, 3), (248, .iload_n 1, 1), (249, .iaload, 1), (250, .invokevirtual 228, 3), (253, .aload_n 0, 1), (254, .bipush 46, 2), (256, .invokevirtual 219, 3), (259, .goto 79, 3), (262, .iload_n 2, 1), (263, .bipush 9, 2), (265, .if_icmp .le 23, 3), (268, .aload_n 0, 1), (269, .aload_n 0, 1), (270, .getfield 22, 3), (273, .iload_n 1, 1), (274, .iaload, 1), (275, .iconst 1, 1), (276, .isub, 1), (277, .iload_n 2, 1), (278, .bipush 10, 2), (280, .isub, 1), (281, .isub, 1), (282, .invokevirtual 228, 3), (285, .goto 53, 3), (288, .iload_n 2, 1), (289, .ifCond .eq 49, 3), (292, .aload_n 0, 1), (293, .iload_n 2, 1), (294, .iconst 2, 1), (295, .if_icmp .ne 8, 3), (298, .bipush 83, 2), (300, .goto 35, 3), (303, .iload_n 2, 1), (304, .iconst 3, 1), (305, .if_icmp .ne 8, 3), (308, .bipush 75, 2), (310, .goto 25, 3), (313, .iload_n 2, 1), (314, .iconst 4, 1), (315, .if_icmp .ne 8, 3), (318, .bipush 73, 2), (320, .goto 15, 3), (323, .iload_n 2, 1), (324, .iconst 5, 1), (325, .if_icmp .ne 8, 3), (328, .bipush 70, 2), (330, .goto 5, 3), (333, .bipush 88, 2), (335, .invokevirtual 219, 3), (338, .iinc 1 1, 3), (341, .goto (-190), 3), (344, .return_, 1)]
def pm_mm169 : pm_M := (⟨"LambdaShelfModel", "sayTerm", "()V"⟩, prog_11_method_31_code, 3, (Option.none : Option FieldType), 0, 9, false, 1337, pm_cc169)
def pm_cc170 : List (Nat × Instr × Nat) := [(0, .iconst 1, 1), (1, .istore_n 2, 1), (2, .iload_n 1, 1), (3, .istore_n 3, 1), (4, .iload_n 2, 1), (5, .ifCond .le 40, 3), (8, .iload_n 2, 1), (9, .aload_n 0, 1), (10, .getfield 19, 3), (13, .iload_n 3, 1), (14, .iaload, 1), (15, .ifCond .ne 7, 3), (18, .iconst 1, 1), (19, .goto 18, 3), (22, .aload_n 0, 1), (23, .getfield 19, 3), (26, .iload_n 3, 1), (27, .iaload, 1), (28, .iconst 1, 1), (29, .if_icmp .ne 7, 3), (32, .iconst 0, 1), (33, .goto 4, 3), (36, .iconst (-1), 1), (37, .iadd, 1), (38, .istore_n 2, 1), (39, .iinc 3 1, 3), (42, .goto (-38), 3), (45, .iload_n 3, 1), (46, .ireturn, 1)]
def pm_mm170 : pm_M := (⟨"LambdaShelfModel", "endOf", "(I)I"⟩, prog_11_method_9_code, 4, (Option.some FieldType.int), 1, 9, false, 1341, pm_cc170)
def pm_cc171 : List (Nat × Instr × Nat) := [(0, .iconst 1, 1), (1, .istore_n 2, 1), (2, .aload_n 0, 1), (3, .getfield 25, 3), (6, .iconst 0, 1), (7, .iconst 0, 1), (8, .iastore, 1), (9, .iload_n 1, 1), (10, .istore_n 3, 1), (11, .iload_n 2, 1), (12, .ifCond .le 84, 3), (15, .iinc 2 (-1), 3), (18, .aload_n 0, 1), (19, .getfield 25, 3), (22, .iload_n 2, 1), (23, .iaload, 1), (24, .istore 4, 2), (26, .aload_n 0, 1), (27, .getfield 22, 3), (30, .iload_n 3, 1), (31, .iload 4, 2), (33, .iastore, 1), (34, .aload_n 0, 1), (35, .getfield 19, 3), (38, .iload_n 3, 1), (39, .iaload, 1), (40, .ifCond .ne 27, 3), (43, .aload_n 0, 1), (44, .getfield 25, 3), (47, .iload_n 2, 1), (48, .iload 4, 2), (50, .iastore, 1), (51, .aload_n 0, 1), (52, .getfield 25, 3), (55, .iload_n 2, 1), (56, .iconst 1, 1), (57, .iadd, 1), (58, .iload 4, 2), (60, .iastore, 1), (61, .iinc 2 2, 3), (64, .goto 26, 3), (67, .aload_n 0, 1), (68, .getfield 19, 3), (71, .iload_n 3, 1), (72, .iaload, 1), (73, .iconst 1, 1), (74, .if_icmp .ne 16, 3), (77, .aload_n 0, 1), (78, .getfield 25, 3), (81, .iload_n 2, 1), (82, .iload 4, 2), (84, .iconst 1, 1), (85, .iadd, 1), (86, .iastore, 1), (87, .iinc 2 1, 3), (90, .iinc 3 1, 3), (93, .goto (-82), 3), (96, .return_, 1)]
def pm_mm171 : pm_M := (⟨"LambdaShelfModel", "depths", "(I)V"⟩, prog_11_method_10_code, 5, (Option.none : Option FieldType), 1, 9, false, 1345, pm_cc171)
def pm_cc172 : List (Nat × Instr × Nat) := [(0, .aload_n 0, 1), (1, .getfield 42, 3), (4, .aload_n 0, 1), (5, .getfield 216, 3), (8, .iload_n 1, 1), (9, .iastore, 1), (10, .aload_n 0, 1), (11, .dup, 1), (12, .getfield 216, 3), (15, .iconst 1, 1), (16, .iadd, 1), (17, .putfield 216, 3), (20, .return_, 1)]
def pm_mm172 : pm_M := (⟨"LambdaShelfModel", "say", "(I)V"⟩, prog_11_method_29_code, 2, (Option.none : Option FieldType), 1, 9, false, 1349, pm_cc172)
def pm_cc173 : List (Nat × Instr × Nat) := [(0, .iload_n 1, 1), (1, .bipush 25, 2), (3, .if_icmp .le 17, 3), (6, .aload_n 0, 1), (7, .bipush 97, 2), (9, .iload_n 1, 1), (10, .bipush 26, 2), (12, .isub, 1), (13, .bipush 26, 2), (15, .idiv, 1), (16, .iadd, 1), (17, .invokevirtual 219, 3), (20, .aload_n 0, 1), (21, .bipush 97, 2), (23, .iload_n 1, 1), (24, .bipush 25, 2), (26, .if_icmp .le 13, 3), (29, .iload_n 1, 1), (30, .bipush 26, 2), (32, .isub, 1), (33, .bipush 26, 2), (35, .irem, 1), (36, .goto 4, 3), (39, .iload_n 1, 1), (40, .iadd, 1), (41, .invokevirtual 219, 3), (44, .return_, 1)]
def pm_mm173 : pm_M := (⟨"LambdaShelfModel", "sayName", "(I)V"⟩, prog_11_method_30_code, 2, (Option.none : Option FieldType), 1, 9, false, 1353, pm_cc173)
def pm_cc174 : List (Nat × Instr × Nat) := [(0, .aload_n 0, 1), (1, .iload_n 1, 1), (2, .invokevirtual 213, 3), (5, .ifCond .eq 11, 3), (8, .aload_n 0, 1), (9, .iload_n 2, 1), (10, .invokevirtual 213, 3), (13, .ifCond .ne 5, 3), (16, .iconst (-1), 1), (17, .ireturn, 1), (18, .aload_n 0, 1), (19, .getfield 204, 3), (22, .bipush 32, 2), (24, .if_icmp .eq 24, 3), (27, .aload_n 0, 1), (28, .getfield 7, 3), (31, .iload_n 1, 1), (32, .iaload, 1), (33, .aload_n 0, 1), (34, .getfield 7, 3), (37, .iload_n 2, 1), (38, .iaload, 1), (39, .iadd, 1), (40, .iconst 1, 1), (41, .iadd, 1), (42, .sipush 500, 3), (45, .if_icmp .le 6, 3), (48, .bipush (-3), 2), (50, .ireturn, 1), (51, .aload_n 0, 1), (52, .iconst 0, 1), (53, .putfield 117, 3), (56, .aload_n 0, 1), (57, .iconst 0, 1), (58, .invokevirtual 173, 3), (61, .iconst 0, 1), (62, .istore_n 3, 1), (63, .iload_n 3, 1), (64, .aload_n 0, 1), (65, .getfield 7, 3), (68, .iload_n 1, 1), (69, .iaload, 1), (70, .if_icmp .ge 25, 3), (73, .aload_n 0, 1), (74, .aload_n 0, 1), (75, .getfield 13, 3), (78, .sipush 500, 3), (81, .iload_n 1, 1), (82, .imul, 1), (83, .iload_n 3, 1), (84, .iadd, 1), (85, .iaload, 1), (86, .invokevirtual 173, 3), (89, .iinc 3 1, 3), (92, .goto (-29), 3), (95, .iconst 0, 1), (96, .istore_n 3, 1), (97, .iload_n 3, 1), (98, .aload_n 0, 1), (99, .getfield 7, 3), (102, .iload_n 2, 1), (103, .iaload, 1), (104, .if_icmp .ge 25, 3), (107, .aload_n 0, 1), (108, .aload_n 0, 1), (109, .getfield 13, 3), (112, .sipush 500, 3), (115, .iload_n 2, 1), (116, .imul, 1), (117, .iload_n 3, 1), (118, .iadd, 1), (119, .iaload, 1), (120, .invokevirtual 173, 3), (123, .iinc 3 1, 3), (126, .goto (-29), 3), (129, .aload_n 0, 1), (130, .aload_n 0, 1), (131, .getfield 204, 3), (134, .invokevirtual 210, 3), (137, .aload_n 0, 1), (138, .dup, 1), (139, .getfield 204, 3), (142, .iconst 1, 1), (143, .iadd, 1), (144, .putfield 204, 3), (147, .aload_n 0, 1), (148, .getfield 204, 3), (151, .iconst 1, 1), (152, .isub, 1), (153, .ireturn, 1)]
def pm_mm174 : pm_M := (⟨"LambdaShelfModel", "apply", "(II)I"⟩, prog_11_method_33_code, 4, (Option.some FieldType.int), 2, 9, false, 1357, pm_cc174)
def pm_cc175 : List (Nat × Instr × Nat) := [(0, .aload_n 0, 1), (1, .iload_n 1, 1), (2, .invokevirtual 213, 3), (5, .ifCond .ne 5, 3), (8, .iconst (-1), 1), (9, .ireturn, 1), (10, .aload_n 0, 1), (11, .getfield 204, 3), (14, .bipush 32, 2), (16, .if_icmp .ne 6, 3), (19, .bipush (-3), 2), (21, .ireturn, 1), (22, .aload_n 0, 1), (23, .iload_n 1, 1), (24, .invokevirtual 231, 3), (27, .aload_n 0, 1), (28, .aload_n 0, 1), (29, .getfield 204, 3), (32, .invokevirtual 210, 3), (35, .aload_n 0, 1), (36, .dup, 1), (37, .getfield 204, 3), (40, .iconst 1, 1), (41, .iadd, 1), (42, .putfield 204, 3), (45, .aload_n 0, 1), (46, .getfield 204, 3), (49, .iconst 1, 1), (50, .isub, 1), (51, .ireturn, 1)]
def pm_mm175 : pm_M := (⟨"LambdaShelfModel", "copy", "(I)I"⟩, prog_11_method_34_code, 2, (Option.some FieldType.int), 1, 9, false, 1361, pm_cc175)
def pm_cc176 : List (Nat × Instr × Nat) := [(0, .aload_n 0, 1), (1, .iload_n 1, 1), (2, .invokevirtual 213, 3), (5, .ifCond .eq 11, 3), (8, .aload_n 0, 1), (9, .iload_n 2, 1), (10, .invokevirtual 213, 3), (13, .ifCond .ne 5, 3), (16, .iconst (-1), 1), (17, .ireturn, 1), (18, .aload_n 0, 1), (19, .getfield 7, 3), (22, .iload_n 1, 1), (23, .iaload, 1), (24, .aload_n 0, 1), (25, .getfield 7, 3), (28, .iload_n 2, 1), (29, .iaload, 1), (30, .if_icmp .ne 7, 3), (33, .iconst 1, 1), (34, .goto 4, 3), (37, .iconst 0, 1), (38, .istore_n 3, 1), (39, .iconst 0, 1), (40, .istore 4, 2), (42, .iload 4, 2), (44, .aload_n 0, 1), (45, .getfield 7, 3), (48, .iload_n 1, 1), (49, .iaload, 1), (50, .if_icmp .ge 48, 3), (53, .iload_n 3, 1), (54, .ifCond .eq 44, 3), (57, .aload_n 0, 1), (58, .getfield 13, 3), (61, .sipush 500, 3), (64, .iload_n 1, 1), (65, .imul, 1), (66, .iload 4, 2), (68, .iadd, 1), (69, .iaload, 1), (70, .aload_n 0, 1), (71, .getfield 13, 3), (74, .sipush 500, 3), (77, .iload_n 2, 1), (78, .imul, 1), (79, .iload 4, 2), (81, .iadd, 1), (82, .iaload, 1), (83, .if_icmp .ne 7, 3), (86, .iconst 1, 1), (87, .goto 4, 3), (90, .iconst 0, 1), (91, .istore_n 3, 1), (92, .iinc 4 1, 3), (95, .goto (-53), 3), (98, .iload_n 3, 1), (99, .ifCond .eq 7, 3), (102, .iconst 1, 1), (103, .goto 4, 3), (106, .iconst 0, 1), (107, .ireturn, 1)]
def pm_mm176 : pm_M := (⟨"LambdaShelfModel", "same", "(II)I"⟩, prog_11_method_35_code, 5, (Option.some FieldType.int), 2, 9, false, 1365, pm_cc176)
def pm_cc177 : List (Nat × Instr × Nat) := [(0, .aload_n 0, 1), (1, .iload_n 1, 1), (2, .invokevirtual 213, 3), (5, .ifCond .eq 15, 3), (8, .iload_n 2, 1), (9, .i2l, 1), (10, .lconst 0, 1), (11, .ldc2_w 271, 3), (14, .invokestatic 113, 3), (17, .ifCond .ne 5, 3), (20, .iconst (-1), 1), (21, .ireturn, 1), (22, .aload_n 0, 1), (23, .iload_n 1, 1), (24, .invokevirtual 231, 3), (27, .aload_n 0, 1), (28, .iload_n 2, 1), (29, .invokevirtual 273, 3), (32, .istore_n 3, 1), (33, .aload_n 0, 1), (34, .iload_n 1, 1), (35, .invokevirtual 210, 3), (38, .iload_n 3, 1), (39, .ireturn, 1)]
def pm_mm177 : pm_M := (⟨"LambdaShelfModel", "step", "(II)I"⟩, prog_11_method_47_code, 4, (Option.some FieldType.int), 2, 9, false, 1369, pm_cc177)
def pm_cc178 : List (Nat × Instr × Nat) := [(0, .aload_n 0, 1), (1, .iload_n 1, 1), (2, .invokevirtual 265, 3), (5, .istore_n 2, 1), (6, .iload_n 2, 1), (7, .bipush (-4), 2), (9, .if_icmp .ne 5, 3), (12, .iconst 0, 1), (13, .ireturn, 1), (14, .aload_n 0, 1), (15, .iconst 0, 1), (16, .putfield 249, 3), (19, .aload_n 0, 1), (20, .iconst 0, 1), (21, .iload_n 2, 1), (22, .invokevirtual 262, 3), (25, .aload_n 0, 1), (26, .iload_n 2, 1), (27, .iload_n 1, 1), (28, .invokevirtual 268, 3), (31, .aload_n 0, 1), (32, .aload_n 0, 1), (33, .iload_n 2, 1), (34, .invokevirtual 222, 3), (37, .aload_n 0, 1), (38, .getfield 117, 3), (41, .invokevirtual 262, 3), (44, .aload_n 0, 1), (45, .getfield 249, 3), (48, .sipush 500, 3), (51, .if_icmp .le 6, 3), (54, .bipush (-3), 2), (56, .ireturn, 1), (57, .aload_n 0, 1), (58, .aload_n 0, 1), (59, .getfield 249, 3), (62, .putfield 117, 3), (65, .iconst 0, 1), (66, .istore_n 3, 1), (67, .iload_n 3, 1), (68, .aload_n 0, 1), (69, .getfield 117, 3), (72, .if_icmp .ge 21, 3), (75, .aload_n 0, 1), (76, .getfield 19, 3), (79, .iload_n 3, 1), (80, .aload_n 0, 1), (81, .getfield 54, 3), (84, .iload_n 3, 1), (85, .iaload, 1), (86, .iastore, 1), (87, .iinc 3 1, 3), (90, .goto (-23), 3), (93, .iconst 1, 1), (94, .ireturn, 1)]
def pm_mm178 : pm_M := (⟨"LambdaShelfModel", "stepped", "(I)I"⟩, prog_11_method_46_code, 4, (Option.some FieldType.int), 1, 9, false, 1374, pm_cc178)
def pm_cc179 : List (Nat × Instr × Nat) := [(0, .iload_n 1, 1), (1, .iconst 2, 1), (2, .if_icmp .ne 44, 3), (5, .iconst 0, 1), (6, .istore_n 2, 1), (7, .aload_n 0, 1), (8, .getfield 19, 3), (11, .iload_n 2, 1), (12, .iaload, 1), (13, .ifCond .ne 17, 3), (16, .aload_n 0, 1), (17, .iload_n 2, 1), (18, .invokevirtual 240, 3), (21, .ifCond .ne 9, 3), (24, .iinc 2 1, 3), (27, .goto (-20), 3), (30, .aload_n 0, 1), (31, .getfield 19, 3), (34, .iload_n 2, 1), (35, .iaload, 1), (36, .ifCond .ne 7, 3), (39, .iload_n 2, 1), (40, .goto 5, 3), (43, .bipush (-4), 2), (45, .ireturn, 1), (46, .bipush (-4), 2), (48, .istore_n 2, 1), (49, .iconst 0, 1), (50, .istore_n 3, 1), (51, .iload_n 3, 1), (52, .aload_n 0, 1), (53, .getfield 117, 3), (56, .if_icmp .ge 50, 3), (59, .iload_n 1, 1), (60, .iconst 3, 1), (61, .if_icmp .ne 14, 3), (64, .aload_n 0, 1), (65, .iload_n 3, 1), (66, .invokevirtual 243, 3), (69, .ifCond .eq 31, 3), (72, .goto 11, 3), (75, .aload_n 0, 1), (76, .iload_n 3, 1), (77, .invokevirtual 240, 3), (80, .ifCond .eq 20, 3), (83, .iload_n 1, 1), (84, .iconst 1, 1), (85, .if_icmp .ne 11, 3), (88, .aload_n 0, 1), (89, .iload_n 3, 1), (90, .invokevirtual 246, 3), (93, .ifCond .ne 5, 3), (96, .iload_n 3, 1), (97, .ireturn, 1), (98, .iload_n 3, 1), (99, .istore_n 2, 1), (100, .iinc 3 1, 3), (103, .goto (-52), 3), (106, .iload_n 1, 1), (107, .iconst 1, 1), (108, .if_icmp .ne 7, 3), (111, .iload_n 2, 1), (112, .goto 5, 3), (115, .bipush (-4), 2), (117, .ireturn, 1)]
def pm_mm179 : pm_M := (⟨"LambdaShelfModel", "nextRedex", "(I)I"⟩, prog_11_method_39_code, 4, (Option.some FieldType.int), 1, 9, false, 1378, pm_cc179)
def pm_cc180 : List (Nat × Instr × Nat) := [(0, .aload_n 0, 1), (1, .getfield 19, 3), (4, .iload_n 1, 1), (5, .iaload, 1), (6, .ifCond .eq 5, 3), (9, .iconst 0, 1), (10, .ireturn, 1), (11, .aload_n 0, 1), (12, .getfield 19, 3), (15, .iload_n 1, 1), (16, .iconst 1, 1), (17, .iadd, 1), (18, .iaload, 1), (19, .istore_n 2, 1), (20, .iload_n 2, 1), (21, .iconst 1, 1), (22, .if_icmp .eq 8, 3), (25, .iload_n 2, 1), (26, .iconst 4, 1), (27, .if_icmp .ne 5, 3), (30, .iconst 1, 1), (31, .ireturn, 1), (32, .iload_n 2, 1), (33, .ifCond .ne 42, 3), (36, .aload_n 0, 1), (37, .getfield 19, 3), (40, .iload_n 1, 1), (41, .iconst 2, 1), (42, .iadd, 1), (43, .iaload, 1), (44, .iconst 3, 1), (45, .if_icmp .eq 26, 3), (48, .aload_n 0, 1), (49, .getfield 19, 3), (52, .iload_n 1, 1), (53, .iconst 2, 1), (54, .iadd, 1), (55, .iaload, 1), (56, .ifCond .ne 19, 3), (59, .aload_n 0, 1), (60, .getfield 19, 3), (63, .iload_n 1, 1), (64, .iconst 3, 1), (65, .iadd, 1), (66, .iaload, 1), (67, .iconst 2, 1), (68, .if_icmp .ne 7, 3), (71, .iconst 1, 1), (72, .goto 4, 3), (75, .iconst 0, 1), (76, .ireturn, 1)]
def pm_mm180 : pm_M := (⟨"LambdaShelfModel", "isRedex", "(I)Z"⟩, prog_11_method_36_code, 3, (Option.some FieldType.boolean), 1, 9, false, 1382, pm_cc180)
def pm_cc181 : List (Nat × Instr × Nat) := [(0, .aload_n 0, 1), (1, .getfield 19, 3), (4, .iload_n 1, 1), (5, .iaload, 1), (6, .iconst 1, 1), (7, .if_icmp .ne 14, 3), (10, .aload_n 0, 1), (11, .getfield 19, 3), (14, .iload_n 1, 1), (15, .iconst 1, 1), (16, .iadd, 1), (17, .iaload, 1), (18, .ifCond .eq 5, 3), (21, .iconst 0, 1), (22, .ireturn, 1), (23, .aload_n 0, 1), (24, .getfield 19, 3), (27, .aload_n 0, 1), (28, .iload_n 1, 1), (29, .iconst 2, 1), (30, .iadd, 1), (31, .invokevirtual 222, 3), (34, .iaload, 1), (35, .bipush 10, 2), (37, .if_icmp .ne 17, 3), (40, .aload_n 0, 1), (41, .iload_n 1, 1), (42, .iconst 2, 1), (43, .iadd, 1), (44, .invokevirtual 237, 3), (47, .ifCond .ne 7, 3), (50, .iconst 1, 1), (51, .goto 4, 3), (54, .iconst 0, 1), (55, .ireturn, 1)]
def pm_mm181 : pm_M := (⟨"LambdaShelfModel", "isThin", "(I)Z"⟩, prog_11_method_38_code, 2, (Option.some FieldType.boolean), 1, 9, false, 1386, pm_cc181)
def pm_cc182 : List (Nat × Instr × Nat) := [(0, .aload_n 0, 1), (1, .iload_n 1, 1), (2, .invokevirtual 222, 3), (5, .istore_n 2, 1), (6, .aload_n 0, 1), (7, .iload_n 1, 1), (8, .invokevirtual 225, 3), (11, .iload_n 1, 1), (12, .istore_n 3, 1), (13, .iload_n 3, 1), (14, .iload_n 2, 1), (15, .if_icmp .ge 29, 3), (18, .aload_n 0, 1), (19, .getfield 19, 3), (22, .iload_n 3, 1), (23, .iaload, 1), (24, .bipush 10, 2), (26, .aload_n 0, 1), (27, .getfield 22, 3), (30, .iload_n 3, 1), (31, .iaload, 1), (32, .iadd, 1), (33, .if_icmp .ne 5, 3), (36, .iconst 1, 1), (37, .ireturn, 1), (38, .iinc 3 1, 3), (41, .goto (-28), 3), (44, .iconst 0, 1), (45, .ireturn, 1)]
def pm_mm182 : pm_M := (⟨"LambdaShelfModel", "has", "(I)Z"⟩, prog_11_method_37_code, 4, (Option.some FieldType.boolean), 1, 9, false, 1390, pm_cc182)
def pm_cc183 : List (Nat × Instr × Nat) := [(0, .aload_n 0, 1), (1, .iload_n 1, 1), (2, .invokevirtual 222, 3), (5, .istore_n 2, 1), (6, .iload_n 1, 1), (7, .iconst 1, 1), (8, .iadd, 1), (9, .istore_n 3, 1), (10, .iload_n 3, 1), (11, .iload_n 2, 1), (12, .if_icmp .ge 19, 3), (15, .aload_n 0, 1), (16, .iload_n 3, 1), (17, .invokevirtual 240, 3), (20, .ifCond .eq 5, 3), (23, .iconst 1, 1), (24, .ireturn, 1), (25, .iinc 3 1, 3), (28, .goto (-18), 3), (31, .iconst 0, 1), (32, .ireturn, 1)]
def pm_mm183 : pm_M := (⟨"LambdaShelfModel", "hasWithin", "(I)Z"⟩, prog_11_method_40_code, 4, (Option.some FieldType.boolean), 1, 9, false, 1394, pm_cc183)
def pm_cc184 : List (Nat × Instr × Nat) := [(0, .iload_n 1, 1), (1, .istore_n 3, 1), (2, .iload_n 3, 1), (3, .iload_n 2, 1), (4, .if_icmp .ge 19, 3), (7, .aload_n 0, 1), (8, .aload_n 0, 1), (9, .getfield 19, 3), (12, .iload_n 3, 1), (13, .iaload, 1), (14, .invokevirtual 252, 3), (17, .iinc 3 1, 3), (20, .goto (-18), 3), (23, .return_, 1)]
def pm_mm184 : pm_M := (⟨"LambdaShelfModel", "addAll", "(II)V"⟩, prog_11_method_42_code, 4, (Option.none : Option FieldType), 2, 9, false, 1398, pm_cc184)
def pm_cc185 : List (Nat × Instr × Nat) := [(0, .aload_n 0, 1), (1, .getfield 249, 3), (4, .sipush 12000, 3), (7, .if_icmp .ge 13, 3), (10, .aload_n 0, 1), (11, .getfield 54, 3), (14, .aload_n 0, 1), (15, .getfield 249, 3), (18, .iload_n 1, 1), (19, .iastore, 1), (20, .aload_n 0, 1), (21, .dup, 1), (22, .getfield 249, 3), (25, .iconst 1, 1), (26, .iadd, 1), (27, .putfield 249, 3), (30, .return_, 1)]
def pm_mm185 : pm_M := (⟨"LambdaShelfModel", "add", "(I)V"⟩, prog_11_method_41_code, 2, (Option.none : Option FieldType), 1, 9, false, 1402, pm_cc185)
def pm_cc186 : List (Nat × Instr × Nat) := [(0, .iload_n 2, 1), (1, .iconst 3, 1), (2, .if_icmp .ne 61, 3), (5, .aload_n 0, 1), (6, .iload_n 1, 1), (7, .iconst 2, 1), (8, .iadd, 1), (9, .invokevirtual 222, 3), (12, .istore_n 3, 1), (13, .aload_n 0, 1), (14, .iload_n 1, 1), (15, .iconst 2, 1), (16, .iadd, 1), (17, .invokevirtual 225, 3), (20, .iload_n 1, 1), (21, .iconst 2, 1), (22, .iadd, 1), (23, .istore 4, 2), (25, .iload 4, 2), (27, .iload_n 3, 1), (28, .if_icmp .ge 23, 3), (31, .aload_n 0, 1), (32, .getfield 57, 3), (35, .iload 4, 2), (37, .aload_n 0, 1), (38, .getfield 22, 3), (41, .iload 4, 2), (43, .iaload, 1), (44, .iastore, 1), (45, .iinc 4 1, 3), (48, .goto (-23), 3), (51, .aload_n 0, 1), (52, .iload_n 1, 1), (53, .iconst 2, 1), (54, .iadd, 1), (55, .iload_n 3, 1), (56, .iconst (-1), 1), (57, .invokevirtual 255, 3), (60, .goto 146, 3), (63, .aload_n 0, 1), (64, .getfield 19, 3), (67, .iload_n 1, 1), (68, .iconst 1, 1), (69, .iadd, 1), (70, .iaload, 1), (71, .iconst 1, 1), (72, .if_icmp .ne 11, 3), (75, .aload_n 0, 1), (76, .iload_n 1, 1), (77, .invokevirtual 259, 3), (80, .goto 126, 3), (83, .aload_n 0, 1), (84, .getfield 19, 3), (87, .iload_n 1, 1), (88, .iconst 1, 1), (89, .iadd, 1), (90, .iaload, 1), (91, .iconst 4, 1), (92, .if_icmp .ne 20, 3), (95, .aload_n 0, 1), (96, .iload_n 1, 1), (97, .iconst 2, 1), (98, .iadd, 1), (99, .aload_n 0, 1), (100, .iload_n 1, 1), (101, .iconst 2, 1), (102, .iadd, 1), (103, .invokevirtual 222, 3), (106, .invokevirtual 262, 3), (109, .goto 97, 3), (112, .aload_n 0, 1), (113, .getfield 19, 3), (116, .iload_n 1, 1), (117, .iconst 2, 1), (118, .iadd, 1), (119, .iaload, 1), (120, .iconst 3, 1), (121, .if_icmp .ne 20, 3), (124, .aload_n 0, 1), (125, .iload_n 1, 1), (126, .iconst 3, 1), (127, .iadd, 1), (128, .aload_n 0, 1), (129, .iload_n 1, 1), (130, .iconst 3, 1), (131, .iadd, 1), (132, .invokevirtual 222, 3), (135, .invokevirtual 262, 3), (138, .goto 68, 3), (141, .iload_n 1, 1), (142, .iconst 4, 1), (143, .iadd, 1), (144, .istore_n 3, 1), (145, .aload_n 0, 1), (146, .iload_n 3, 1), (147, .invokevirtual 222, 3), (150, .istore 4, 2), (152, .aload_n 0, 1), (153, .iload 4, 2), (155, .invokevirtual 222, 3), (158, .istore 5, 2), (160, .aload_n 0, 1), (161, .iload 5, 2), (163, .invokevirtual 222, 3), (166, .istore 6, 2), (168, .aload_n 0, 1), (169, .iconst 0, 1), (170, .invokevirtual 252, 3), (173, .aload_n 0, 1), (174, .iconst 0, 1), (175, .invokevirtual 252, 3), (178, .aload_n 0, 1), (179, .iload_n 3, 1), (180, .iload 4, 2), (182, .invokevirtual 262, 3), (185, .aload_n 0, 1), (186, .iload 5, 2), (188, .iload 6, 2), (190, .invokevirtual 262, 3), (193, .aload_n 0, 1), (194, .iconst 0, 1), (195, .invokevirtual 252, 3), (198, .aload_n 0, 1), (199, .iload 4, 2), (201, .iload 6, 2), (203, .invokevirtual 262, 3), (206, .return_, 1)]
def pm_mm186 : pm_M := (⟨"LambdaShelfModel", "becomes", "(II)V"⟩, prog_11_method_45_code, 7, (Option.none : Option FieldType), 2, 9, false, 1406, pm_cc186)
def pm_cc187 : List (Nat × Instr × Nat) := [(0, .iload_n 1, 1), (1, .istore 4, 2), (3, .iload 4, 2), (5, .iload_n 2, 1), (6, .if_icmp .ge 64, 3), (9, .aload_n 0, 1), (10, .aload_n 0, 1), (11, .getfield 19, 3), (14, .iload 4, 2), (16, .iaload, 1), (17, .bipush 9, 2), (19, .if_icmp .le 35, 3), (22, .aload_n 0, 1), (23, .getfield 19, 3), (26, .iload 4, 2), (28, .iaload, 1), (29, .bipush 10, 2), (31, .isub, 1), (32, .aload_n 0, 1), (33, .getfield 57, 3), (36, .iload 4, 2), (38, .iaload, 1), (39, .if_icmp .lt 15, 3), (42, .aload_n 0, 1), (43, .getfield 19, 3), (46, .iload 4, 2), (48, .iaload, 1), (49, .iload_n 3, 1), (50, .iadd, 1), (51, .goto 10, 3), (54, .aload_n 0, 1), (55, .getfield 19, 3), (58, .iload 4, 2), (60, .iaload, 1), (61, .invokevirtual 252, 3), (64, .iinc 4 1, 3), (67, .goto (-64), 3), (70, .return_, 1)]
def pm_mm187 : pm_M := (⟨"LambdaShelfModel", "addMore", "(III)V"⟩, prog_11_method_43_code, 5, (Option.none : Option FieldType), 3, 9, false, 1410, pm_cc187)
def pm_cc188 : List (Nat × Instr × Nat) := [(0, .iload_n 1, 1), (1, .iconst 2, 1), (2, .iadd, 1), (3, .istore_n 2, 1), (4, .aload_n 0, 1), (5, .iload_n 2, 1), (6, .invokevirtual 222, 3), (9, .istore_n 3, 1), (10, .aload_n 0, 1), (11, .iload_n 3, 1), (12, .invokevirtual 222, 3), (15, .istore 4, 2), (17, .aload_n 0, 1), (18, .iload_n 3, 1), (19, .invokevirtual 225, 3), (22, .iload_n 3, 1), (23, .istore 5, 2), (25, .iload 5, 2), (27, .iload 4, 2), (29, .if_icmp .ge 23, 3), (32, .aload_n 0, 1), (33, .getfield 57, 3), (36, .iload 5, 2), (38, .aload_n 0, 1), (39, .getfield 22, 3), (42, .iload 5, 2), (44, .iaload, 1), (45, .iastore, 1), (46, .iinc 5 1, 3), (49, .goto (-24), 3), (52, .aload_n 0, 1), (53, .iload_n 2, 1), (54, .invokevirtual 225, 3), (57, .iload_n 2, 1), (58, .istore 5, 2), (60, .iload 5, 2), (62, .iload_n 3, 1), (63, .if_icmp .ge 85, 3), (66, .aload_n 0, 1), (67, .getfield 19, 3), (70, .iload 5, 2), (72, .iaload, 1), (73, .bipush 10, 2), (75, .isub, 1), (76, .istore 6, 2), (78, .iload 6, 2), (80, .aload_n 0, 1), (81, .getfield 22, 3), (84, .iload 5, 2), (86, .iaload, 1), (87, .if_icmp .ne 20, 3), (90, .aload_n 0, 1), (91, .iload_n 3, 1), (92, .iload 4, 2), (94, .aload_n 0, 1), (95, .getfield 22, 3), (98, .iload 5, 2), (100, .iaload, 1), (101, .invokevirtual 255, 3), (104, .goto 38, 3), (107, .aload_n 0, 1), (108, .iload 6, 2), (110, .aload_n 0, 1), (111, .getfield 22, 3), (114, .iload 5, 2), (116, .iaload, 1), (117, .if_icmp .le 15, 3), (120, .aload_n 0, 1), (121, .getfield 19, 3), (124, .iload 5, 2), (126, .iaload, 1), (127, .iconst 1, 1), (128, .isub, 1), (129, .goto 10, 3), (132, .aload_n 0, 1), (133, .getfield 19, 3), (136, .iload 5, 2), (138, .iaload, 1), (139, .invokevirtual 252, 3), (142, .iinc 5 1, 3), (145, .goto (-85), 3), (148, .return_, 1)]
def pm_mm188 : pm_M := (⟨"LambdaShelfModel", "beta", "(I)V"⟩, prog_11_method_44_code, 7, (Option.none : Option FieldType), 1, 9, false, 1414, pm_cc188)
def pm_cc189 : List (Nat × Instr × Nat) := [(0, .aload_n 0, 1), (1, .iload_n 1, 1), (2, .invokevirtual 213, 3), (5, .ifCond .eq 27, 3), (8, .iload_n 2, 1), (9, .i2l, 1), (10, .lconst 0, 1), (11, .ldc2_w 271, 3), (14, .invokestatic 113, 3), (17, .ifCond .eq 15, 3), (20, .iload_n 3, 1), (21, .i2l, 1), (22, .lconst 0, 1), (23, .ldc2_w 276, 3), (26, .invokestatic 113, 3), (29, .ifCond .ne 5, 3), (32, .iconst (-1), 1), (33, .ireturn, 1), (34, .aload_n 0, 1), (35, .iload_n 1, 1), (36, .invokevirtual 231, 3), (39, .aload_n 0, 1), (40, .iconst 1, 1), (41, .putfield 278, 3), (44, .aload_n 0, 1), (45, .iconst 0, 1), (46, .putfield 281, 3), (49, .iconst 0, 1), (50, .istore 4, 2), (52, .iconst 1, 1), (53, .istore 5, 2), (55, .iload 5, 2), (57, .ifCond .eq 89, 3), (60, .iload 4, 2), (62, .iload_n 3, 1), (63, .if_icmp .ge 83, 3), (66, .aload_n 0, 1), (67, .iload_n 2, 1), (68, .invokevirtual 273, 3), (71, .istore 6, 2), (73, .iload 6, 2), (75, .iconst 1, 1), (76, .if_icmp .ne 7, 3), (79, .iconst 1, 1), (80, .goto 4, 3), (83, .iconst 0, 1), (84, .istore 5, 2), (86, .aload_n 0, 1), (87, .iload 5, 2), (89, .ifCond .eq 7, 3), (92, .iconst 1, 1), (93, .goto 13, 3), (96, .iload 6, 2), (98, .ifCond .ne 7, 3), (101, .iconst 0, 1), (102, .goto 4, 3), (105, .iconst 2, 1), (106, .putfield 278, 3), (109, .iload 5, 2), (111, .ifCond .eq 32, 3), (114, .iinc 4 1, 3), (117, .aload_n 0, 1), (118, .aload_n 0, 1), (119, .getfield 117, 3), (122, .aload_n 0, 1), (123, .getfield 281, 3), (126, .if_icmp .le 10, 3), (129, .aload_n 0, 1), (130, .getfield 117, 3), (133, .goto 7, 3), (136, .aload_n 0, 1), (137, .getfield 281, 3), (140, .putfield 281, 3), (143, .goto (-88), 3), (146, .aload_n 0, 1), (147, .iload_n 1, 1), (148, .invokevirtual 210, 3), (151, .iload 4, 2), (153, .ireturn, 1)]
def pm_mm189 : pm_M := (⟨"LambdaShelfModel", "steps", "(III)I"⟩, prog_11_method_48_code, 7, (Option.some FieldType.int), 3, 9, false, 1418, pm_cc189)
def pm_cc190 : List (Nat × Instr × Nat) := [(0, .iload_n 1, 1), (1, .ifCond .ne 10, 3), (4, .aload_n 0, 1), (5, .getfield 278, 3), (8, .goto 16, 3), (11, .iload_n 1, 1), (12, .iconst 1, 1), (13, .if_icmp .ne 10, 3), (16, .aload_n 0, 1), (17, .getfield 281, 3), (20, .goto 4, 3), (23, .iconst (-1), 1), (24, .ireturn, 1)]
def pm_mm190 : pm_M := (⟨"LambdaShelfModel", "told", "(I)I"⟩, prog_11_method_49_code, 2, (Option.some FieldType.int), 1, 9, false, 1423, pm_cc190)
def pm_cc191 : List (Nat × Instr × Nat) := [(0, .aload_n 0, 1), (1, .iload_n 1, 1), (2, .invokevirtual 213, 3), (5, .ifCond .eq 15, 3), (8, .iload_n 2, 1), (9, .i2l, 1), (10, .lconst 0, 1), (11, .ldc2_w 271, 3), (14, .invokestatic 113, 3), (17, .ifCond .ne 5, 3), (20, .iconst (-1), 1), (21, .ireturn, 1), (22, .aload_n 0, 1), (23, .iload_n 1, 1), (24, .invokevirtual 231, 3), (27, .aload_n 0, 1), (28, .iload_n 2, 1), (29, .invokevirtual 265, 3), (32, .ireturn, 1)]
def pm_mm191 : pm_M := (⟨"LambdaShelfModel", "redex", "(II)I"⟩, prog_11_method_50_code, 3, (Option.some FieldType.int), 2, 9, false, 1427, pm_cc191)
def pm_cc192 : List (Nat × Instr × Nat) := [(0, .aload_n 0, 1), (1, .iload_n 1, 1), (2, .invokevirtual 213, 3), (5, .ifCond .ne 5, 3), (8, .iconst (-1), 1), (9, .ireturn, 1), (10, .aload_n 0, 1), (11, .iload_n 1, 1), (12, .invokevirtual 231, 3), (15, .aload_n 0, 1), (16, .invokevirtual 284, 3), (19, .ireturn, 1)]
def pm_mm192 : pm_M := (⟨"LambdaShelfModel", "redexes", "(I)I"⟩, prog_11_method_52_code, 2, (Option.some FieldType.int), 1, 9, false, 1431, pm_cc192)
def pm_cc193 : List (Nat × Instr × Nat) := [(0, .iconst 0, 1), (1, .istore_n 1, 1), (2, .iconst 0, 1), (3, .istore_n 2, 1), (4, .iload_n 2, 1), (5, .aload_n 0, 1), (6, .getfield 117, 3), (9, .if_icmp .ge 25, 3), (12, .iload_n 1, 1), (13, .aload_n 0, 1), (14, .iload_n 2, 1), (15, .invokevirtual 240, 3), (18, .ifCond .eq 7, 3), (21, .iconst 1, 1), (22, .goto 4, 3), (25, .iconst 0, 1), (26, .iadd, 1), (27, .istore_n 1, 1), (28, .iinc 2 1, 3), (31, .goto (-27), 3), (34, .iload_n 1, 1), (35, .ireturn, 1)]
def pm_mm193 : pm_M := (⟨"LambdaShelfModel", "count0", "()I"⟩, prog_11_method_51_code, 3, (Option.some FieldType.int), 0, 9, false, 1435, pm_cc193)
def pm_cc194 : List (Nat × Instr × Nat) := [(0, .aload_n 0, 1), (1, .iload_n 1, 1), (2, .invokevirtual 213, 3), (5, .ifCond .ne 5, 3), (8, .iconst (-1), 1), (9, .ireturn, 1), (10, .aload_n 0, 1), (11, .getfield 204, 3), (14, .bipush 32, 2), (16, .if_icmp .ne 6, 3), (19, .bipush (-3), 2), (21, .ireturn, 1), (22, .aload_n 0, 1), (23, .iload_n 1, 1), (24, .invokevirtual 231, 3), (27, .aload_n 0, 1), (28, .invokevirtual 297, 3), (31, .ifCond .ne 6, 3), (34, .bipush (-3), 2), (36, .ireturn, 1), (37, .aload_n 0, 1), (38, .aload_n 0, 1), (39, .getfield 204, 3), (42, .invokevirtual 210, 3), (45, .aload_n 0, 1), (46, .dup, 1), (47, .getfield 204, 3), (50, .iconst 1, 1), (51, .iadd, 1), (52, .putfield 204, 3), (55, .aload_n 0, 1), (56, .getfield 204, 3), (59, .iconst 1, 1), (60, .isub, 1), (61, .ireturn, 1)]
def pm_mm194 : pm_M := (⟨"LambdaShelfModel", "abstracted", "(I)I"⟩, prog_11_method_57_code, 2, (Option.some FieldType.int), 1, 9, false, 1439, pm_cc194)
def pm_cc195 : List (Nat × Instr × Nat) := [(0, .aload_n 0, 1), (1, .getfield 117, 3), (4, .iconst 1, 1), (5, .isub, 1), (6, .istore_n 1, 1), (7, .iload_n 1, 1), (8, .ifCond .lt 213, 3), (11, .iload_n 1, 1), (12, .ifCond .lt 19, 3), (15, .aload_n 0, 1), (16, .getfield 19, 3), (19, .iload_n 1, 1), (20, .iaload, 1), (21, .iconst 1, 1), (22, .if_icmp .eq 9, 3), (25, .iinc 1 (-1), 3), (28, .goto (-17), 3), (31, .iload_n 1, 1), (32, .ifCond .lt (-25), 3), (35, .aload_n 0, 1), (36, .iload_n 1, 1), (37, .invokevirtual 222, 3), (40, .istore_n 2, 1), (41, .aload_n 0, 1), (42, .iconst 0, 1), (43, .putfield 249, 3), (46, .aload_n 0, 1), (47, .iload_n 1, 1), (48, .invokevirtual 294, 3), (51, .aload_n 0, 1), (52, .getfield 249, 3), (55, .sipush 500, 3), (58, .if_icmp .le 5, 3), (61, .iconst 0, 1), (62, .ireturn, 1), (63, .aload_n 0, 1), (64, .getfield 249, 3), (67, .istore_n 3, 1), (68, .iload_n 3, 1), (69, .iload_n 2, 1), (70, .iload_n 1, 1), (71, .isub, 1), (72, .isub, 1), (73, .istore 4, 2), (75, .aload_n 0, 1), (76, .getfield 117, 3), (79, .iload 4, 2), (81, .iadd, 1), (82, .sipush 500, 3), (85, .iconst 3, 1), (86, .iload_n 1, 1), (87, .iconst 1, 1), (88, .iadd, 1), (89, .imul, 1), (90, .iadd, 1), (91, .if_icmp .le 5, 3), (94, .iconst 0, 1), (95, .ireturn, 1), (96, .iload 4, 2), (98, .ifCond .le 43, 3), (101, .aload_n 0, 1), (102, .getfield 117, 3), (105, .iconst 1, 1), (106, .isub, 1), (107, .istore 5, 2), (109, .iload 5, 2), (111, .iload_n 2, 1), (112, .if_icmp .lt 26, 3), (115, .aload_n 0, 1), (116, .getfield 19, 3), (119, .iload 5, 2), (121, .iload 4, 2), (123, .iadd, 1), (124, .aload_n 0, 1), (125, .getfield 19, 3), (128, .iload 5, 2), (130, .iaload, 1), (131, .iastore, 1), (132, .iinc 5 (-1), 3), (135, .goto (-26), 3), (138, .goto 38, 3), (141, .iload_n 2, 1), (142, .istore 5, 2), (144, .iload 5, 2), (146, .aload_n 0, 1), (147, .getfield 117, 3), (150, .if_icmp .ge 26, 3), (153, .aload_n 0, 1), (154, .getfield 19, 3), (157, .iload 5, 2), (159, .iload 4, 2), (161, .iadd, 1), (162, .aload_n 0, 1), (163, .getfield 19, 3), (166, .iload 5, 2), (168, .iaload, 1), (169, .iastore, 1), (170, .iinc 5 1, 3), (173, .goto (-29), 3), (176, .iconst 0, 1), (177, .istore 5, 2), (179, .iload 5, 2), (181, .iload_n 3, 1), (182, .if_icmp .ge 25, 3), (185, .aload_n 0, 1), (186, .getfield 19, 3), (189, .iload_n 1, 1), (190, .iload 5, 2), (192, .iadd, 1), (193, .aload_n 0, 1), (194, .getfield 54, 3), (197, .iload 5, 2), (199, .iaload, 1), (200, .iastore, 1), (201, .iinc 5 1, 3), (204, .goto (-25), 3), (207, .aload_n 0, 1), (208, .dup, 1), (209, .getfield 117, 3), (212, .iload 4, 2), (214, .iadd, 1), (215, .putfield 117, 3), (218, .goto (-211), 3), (221, .aload_n 0, 1), (222, .getfield 117, 3), (225, .sipush 500, 3), (228, .if_icmp .gt 7, 3), (231, .iconst 1, 1), (232, .goto 4, 3), (235, .iconst 0, 1), (236, .ireturn, 1)]
def pm_mm195 : pm_M := (⟨"LambdaShelfModel", "isAbstracted", "()Z"⟩, prog_11_method_56_code, 6, (Option.some FieldType.boolean), 0, 9, false, 1443, pm_cc195)
def pm_cc196 : List (Nat × Instr × Nat) := [(0, .iconst 1, 1), (1, .istore_n 2, 1), (2, .iload_n 1, 1), (3, .iconst 1, 1), (4, .iadd, 1), (5, .istore_n 3, 1), (6, .iload_n 2, 1), (7, .ifCond .le 146, 3), (10, .aload_n 0, 1), (11, .iload_n 3, 1), (12, .invokevirtual 222, 3), (15, .istore 4, 2), (17, .aload_n 0, 1), (18, .getfield 19, 3), (21, .iload_n 3, 1), (22, .iaload, 1), (23, .bipush 10, 2), (25, .if_icmp .ne 17, 3), (28, .aload_n 0, 1), (29, .iconst 4, 1), (30, .invokevirtual 252, 3), (33, .iload 4, 2), (35, .istore_n 3, 1), (36, .iinc 2 (-1), 3), (39, .goto 111, 3), (42, .aload_n 0, 1), (43, .iload_n 3, 1), (44, .iload 4, 2), (46, .invokevirtual 287, 3), (49, .ifCond .ne 29, 3), (52, .aload_n 0, 1), (53, .iconst 0, 1), (54, .invokevirtual 252, 3), (57, .aload_n 0, 1), (58, .iconst 3, 1), (59, .invokevirtual 252, 3), (62, .aload_n 0, 1), (63, .iload_n 3, 1), (64, .iload 4, 2), (66, .invokevirtual 291, 3), (69, .iload 4, 2), (71, .istore_n 3, 1), (72, .iinc 2 (-1), 3), (75, .goto 75, 3), (78, .aload_n 0, 1), (79, .iload_n 3, 1), (80, .iconst 1, 1), (81, .iadd, 1), (82, .invokevirtual 222, 3), (85, .istore 5, 2), (87, .aload_n 0, 1), (88, .getfield 19, 3), (91, .iload 5, 2), (93, .iaload, 1), (94, .bipush 10, 2), (96, .if_icmp .ne 33, 3), (99, .aload_n 0, 1), (100, .iload_n 3, 1), (101, .iconst 1, 1), (102, .iadd, 1), (103, .iload 5, 2), (105, .invokevirtual 287, 3), (108, .ifCond .ne 21, 3), (111, .aload_n 0, 1), (112, .iload_n 3, 1), (113, .iconst 1, 1), (114, .iadd, 1), (115, .iload 5, 2), (117, .invokevirtual 291, 3), (120, .iload 4, 2), (122, .istore_n 3, 1), (123, .iinc 2 (-1), 3), (126, .goto 24, 3), (129, .aload_n 0, 1), (130, .iconst 0, 1), (131, .invokevirtual 252, 3), (134, .aload_n 0, 1), (135, .iconst 0, 1), (136, .invokevirtual 252, 3), (139, .aload_n 0, 1), (140, .iconst 2, 1), (141, .invokevirtual 252, 3), (144, .iinc 3 1, 3), (147, .iinc 2 1, 3), (150, .goto (-144), 3), (153, .return_, 1)]
def pm_mm196 : pm_M := (⟨"LambdaShelfModel", "abstracts", "(I)V"⟩, prog_11_method_55_code, 6, (Option.none : Option FieldType), 1, 9, false, 1447, pm_cc196)
def pm_cc197 : List (Nat × Instr × Nat) := [(0, .iload_n 1, 1), (1, .istore_n 3, 1), (2, .iload_n 3, 1), (3, .iload_n 2, 1), (4, .if_icmp .ge 22, 3), (7, .aload_n 0, 1), (8, .getfield 19, 3), (11, .iload_n 3, 1), (12, .iaload, 1), (13, .bipush 10, 2), (15, .if_icmp .ne 5, 3), (18, .iconst 1, 1), (19, .ireturn, 1), (20, .iinc 3 1, 3), (23, .goto (-21), 3), (26, .iconst 0, 1), (27, .ireturn, 1)]
def pm_mm197 : pm_M := (⟨"LambdaShelfModel", "hasNaught", "(II)Z"⟩, prog_11_method_53_code, 4, (Option.some FieldType.boolean), 2, 9, false, 1451, pm_cc197)
def pm_cc198 : List (Nat × Instr × Nat) := [(0, .iload_n 1, 1), (1, .istore_n 3, 1), (2, .iload_n 3, 1), (3, .iload_n 2, 1), (4, .if_icmp .ge 41, 3), (7, .aload_n 0, 1), (8, .aload_n 0, 1), (9, .getfield 19, 3), (12, .iload_n 3, 1), (13, .iaload, 1), (14, .bipush 9, 2), (16, .if_icmp .le 14, 3), (19, .aload_n 0, 1), (20, .getfield 19, 3), (23, .iload_n 3, 1), (24, .iaload, 1), (25, .iconst 1, 1), (26, .isub, 1), (27, .goto 9, 3), (30, .aload_n 0, 1), (31, .getfield 19, 3), (34, .iload_n 3, 1), (35, .iaload, 1), (36, .invokevirtual 252, 3), (39, .iinc 3 1, 3), (42, .goto (-40), 3), (45, .return_, 1)]
def pm_mm198 : pm_M := (⟨"LambdaShelfModel", "addLess", "(II)V"⟩, prog_11_method_54_code, 4, (Option.none : Option FieldType), 2, 9, false, 1455, pm_cc198)
def pm_cc199 : List (Nat × Instr × Nat) := [(0, .aload_n 0, 1), (1, .iload_n 1, 1), (2, .invokevirtual 213, 3), (5, .ifCond .ne 5, 3), (8, .iconst (-1), 1), (9, .ireturn, 1), (10, .aload_n 0, 1), (11, .iload_n 1, 1), (12, .invokevirtual 231, 3), (15, .aload_n 0, 1), (16, .invokevirtual 301, 3), (19, .ireturn, 1)]
def pm_mm199 : pm_M := (⟨"LambdaShelfModel", "number", "(I)I"⟩, prog_11_method_59_code, 2, (Option.some FieldType.int), 1, 9, false, 1459, pm_cc199)
def pm_cc200 : List (Nat × Instr × Nat) := [(0, .aload_n 0, 1), (1, .getfield 117, 3), (4, .iconst 2, 1), (5, .if_icmp .ne 26, 3), (8, .aload_n 0, 1), (9, .getfield 19, 3), (12, .iconst 0, 1), (13, .iaload, 1), (14, .iconst 1, 1), (15, .if_icmp .ne 16, 3), (18, .aload_n 0, 1), (19, .getfield 19, 3), (22, .iconst 1, 1), (23, .iaload, 1), (24, .bipush 10, 2), (26, .if_icmp .ne 5, 3), (29, .iconst 1, 1), (30, .ireturn, 1), (31, .aload_n 0, 1), (32, .getfield 117, 3), (35, .iconst 2, 1), (36, .if_icmp .le 27, 3), (39, .aload_n 0, 1), (40, .getfield 19, 3), (43, .iconst 0, 1), (44, .iaload, 1), (45, .iconst 1, 1), (46, .if_icmp .ne 17, 3), (49, .aload_n 0, 1), (50, .getfield 19, 3), (53, .iconst 1, 1), (54, .iaload, 1), (55, .iconst 1, 1), (56, .if_icmp .ne 7, 3), (59, .iconst 1, 1), (60, .goto 4, 3), (63, .iconst 0, 1), (64, .istore_n 1, 1), (65, .iload_n 1, 1), (66, .ifCond .eq 7, 3), (69, .iconst 2, 1), (70, .goto 4, 3), (73, .iconst 0, 1), (74, .istore_n 2, 1), (75, .iconst 0, 1), (76, .istore_n 3, 1), (77, .iload_n 2, 1), (78, .iconst 2, 1), (79, .iadd, 1), (80, .aload_n 0, 1), (81, .getfield 117, 3), (84, .if_icmp .ge 42, 3), (87, .aload_n 0, 1), (88, .getfield 19, 3), (91, .iload_n 2, 1), (92, .iaload, 1), (93, .ifCond .ne 33, 3), (96, .aload_n 0, 1), (97, .getfield 19, 3), (100, .iload_n 2, 1), (101, .iconst 1, 1), (102, .iadd, 1), (103, .iaload, 1), (104, .iload_n 1, 1), (105, .ifCond .eq 8, 3), (108, .bipush 11, 2), (110, .goto 4, 3), (113, .iconst 5, 1), (114, .if_icmp .ne 12, 3), (117, .iinc 2 2, 3), (120, .iinc 3 1, 3), (123, .goto (-46), 3), (126, .iload_n 2, 1), (127, .aload_n 0, 1), (128, .getfield 117, 3), (131, .iconst 1, 1), (132, .isub, 1), (133, .if_icmp .ne 27, 3), (136, .aload_n 0, 1), (137, .getfield 19, 3), (140, .iload_n 2, 1), (141, .iaload, 1), (142, .iload_n 1, 1), (143, .ifCond .eq 8, 3), (146, .bipush 10, 2), (148, .goto 5, 3), (151, .bipush 6, 2), (153, .if_icmp .ne 7, 3), (156, .iload_n 3, 1), (157, .goto 5, 3), (160, .bipush (-4), 2), (162, .ireturn, 1)]
def pm_mm200 : pm_M := (⟨"LambdaShelfModel", "numberNow", "()I"⟩, prog_11_method_58_code, 4, (Option.some FieldType.int), 0, 9, false, 1463, pm_cc200)
def pm_cc201 : List (Nat × Instr × Nat) := [(0, .aload_n 0, 1), (1, .iload_n 1, 1), (2, .invokevirtual 213, 3), (5, .ifCond .eq 15, 3), (8, .iload_n 2, 1), (9, .i2l, 1), (10, .lconst 0, 1), (11, .ldc2_w 276, 3), (14, .invokestatic 113, 3), (17, .ifCond .ne 5, 3), (20, .iconst (-1), 1), (21, .ireturn, 1), (22, .aload_n 0, 1), (23, .getfield 7, 3), (26, .iload_n 1, 1), (27, .iaload, 1), (28, .iconst 4, 1), (29, .iadd, 1), (30, .sipush 500, 3), (33, .if_icmp .le 6, 3), (36, .bipush (-3), 2), (38, .ireturn, 1), (39, .aload_n 0, 1), (40, .iconst 0, 1), (41, .putfield 117, 3), (44, .aload_n 0, 1), (45, .iconst 0, 1), (46, .invokevirtual 173, 3), (49, .aload_n 0, 1), (50, .iconst 0, 1), (51, .invokevirtual 173, 3), (54, .iconst 0, 1), (55, .istore_n 3, 1), (56, .iload_n 3, 1), (57, .aload_n 0, 1), (58, .getfield 7, 3), (61, .iload_n 1, 1), (62, .iaload, 1), (63, .if_icmp .ge 25, 3), (66, .aload_n 0, 1), (67, .aload_n 0, 1), (68, .getfield 13, 3), (71, .sipush 500, 3), (74, .iload_n 1, 1), (75, .imul, 1), (76, .iload_n 3, 1), (77, .iadd, 1), (78, .iaload, 1), (79, .invokevirtual 173, 3), (82, .iinc 3 1, 3), (85, .goto (-29), 3), (88, .aload_n 0, 1), (89, .iconst 5, 1), (90, .invokevirtual 173, 3), (93, .aload_n 0, 1), (94, .bipush 6, 2), (96, .invokevirtual 173, 3), (99, .iconst 1, 1), (100, .istore_n 3, 1), (101, .iconst 0, 1), (102, .istore 4, 2), (104, .iload 4, 2), (106, .iload_n 2, 1), (107, .if_icmp .ge 20, 3), (110, .iload_n 3, 1), (111, .iconst 1, 1), (112, .if_icmp .ne 15, 3), (115, .aload_n 0, 1), (116, .iconst 0, 1), (117, .invokevirtual 273, 3), (120, .istore_n 3, 1), (121, .iinc 4 1, 3), (124, .goto (-20), 3), (127, .iload_n 3, 1), (128, .bipush (-3), 2), (130, .if_icmp .ne 6, 3), (133, .bipush (-3), 2), (135, .ireturn, 1), (136, .aload_n 0, 1), (137, .invokevirtual 284, 3), (140, .ifCond .le 8, 3), (143, .bipush (-2), 2), (145, .goto 7, 3), (148, .aload_n 0, 1), (149, .invokevirtual 301, 3), (152, .ireturn, 1)]
def pm_mm201 : pm_M := (⟨"LambdaShelfModel", "read", "(II)I"⟩, prog_11_method_60_code, 5, (Option.some FieldType.int), 2, 9, false, 1467, pm_cc201)
def pm_cc202 : List (Nat × Instr × Nat) := [(0, .aload_n 0, 1), (1, .iload_n 1, 1), (2, .invokevirtual 213, 3), (5, .ifCond .ne 5, 3), (8, .iconst (-1), 1), (9, .ireturn, 1), (10, .aload_n 0, 1), (11, .iload_n 1, 1), (12, .invokevirtual 231, 3), (15, .aload_n 0, 1), (16, .invokevirtual 323, 3), (19, .istore_n 2, 1), (20, .aload_n 0, 1), (21, .invokevirtual 326, 3), (24, .ifCond .ne 6, 3), (27, .bipush (-4), 2), (29, .ireturn, 1), (30, .aload_n 0, 1), (31, .iload_n 2, 1), (32, .invokevirtual 329, 3), (35, .istore_n 3, 1), (36, .iload_n 3, 1), (37, .bipush (-3), 2), (39, .if_icmp .eq 37, 3), (42, .aload_n 0, 1), (43, .iload_n 3, 1), (44, .putfield 332, 3), (47, .iconst 0, 1), (48, .istore 4, 2), (50, .iload 4, 2), (52, .iload_n 3, 1), (53, .if_icmp .ge 23, 3), (56, .aload_n 0, 1), (57, .getfield 93, 3), (60, .iload 4, 2), (62, .aload_n 0, 1), (63, .getfield 96, 3), (66, .iload 4, 2), (68, .iaload, 1), (69, .iastore, 1), (70, .iinc 4 1, 3), (73, .goto (-23), 3), (76, .iload_n 3, 1), (77, .ireturn, 1)]
def pm_mm202 : pm_M := (⟨"LambdaShelfModel", "typed", "(I)I"⟩, prog_11_method_69_code, 5, (Option.some FieldType.int), 1, 9, false, 1471, pm_cc202)
def pm_cc203 : List (Nat × Instr × Nat) := [(0, .aload_n 0, 1), (1, .iconst 0, 1), (2, .putfield 304, 3), (5, .aload_n 0, 1), (6, .invokevirtual 307, 3), (9, .istore_n 1, 1), (10, .aload_n 0, 1), (11, .iconst 0, 1), (12, .invokevirtual 225, 3), (15, .iconst 0, 1), (16, .istore_n 2, 1), (17, .iload_n 2, 1), (18, .aload_n 0, 1), (19, .getfield 117, 3), (22, .if_icmp .ge 84, 3), (25, .aload_n 0, 1), (26, .getfield 19, 3), (29, .iload_n 2, 1), (30, .iaload, 1), (31, .iconst 1, 1), (32, .if_icmp .ne 28, 3), (35, .aload_n 0, 1), (36, .getfield 87, 3), (39, .aload_n 0, 1), (40, .getfield 22, 3), (43, .iload_n 2, 1), (44, .iaload, 1), (45, .iload_n 2, 1), (46, .iastore, 1), (47, .aload_n 0, 1), (48, .getfield 84, 3), (51, .iload_n 2, 1), (52, .aload_n 0, 1), (53, .invokevirtual 307, 3), (56, .iastore, 1), (57, .goto 43, 3), (60, .aload_n 0, 1), (61, .getfield 19, 3), (64, .iload_n 2, 1), (65, .iaload, 1), (66, .bipush 9, 2), (68, .if_icmp .le 32, 3), (71, .aload_n 0, 1), (72, .getfield 81, 3), (75, .iload_n 2, 1), (76, .aload_n 0, 1), (77, .getfield 87, 3), (80, .aload_n 0, 1), (81, .getfield 22, 3), (84, .iload_n 2, 1), (85, .iaload, 1), (86, .iconst 1, 1), (87, .isub, 1), (88, .aload_n 0, 1), (89, .getfield 19, 3), (92, .iload_n 2, 1), (93, .iaload, 1), (94, .bipush 10, 2), (96, .isub, 1), (97, .isub, 1), (98, .iaload, 1), (99, .iastore, 1), (100, .iinc 2 1, 3), (103, .goto (-86), 3), (106, .iconst 0, 1), (107, .istore_n 2, 1), (108, .aload_n 0, 1), (109, .getfield 117, 3), (112, .iconst 1, 1), (113, .isub, 1), (114, .istore_n 3, 1), (115, .iload_n 3, 1), (116, .ifCond .lt 147, 3), (119, .aload_n 0, 1), (120, .getfield 19, 3), (123, .iload_n 3, 1), (124, .iaload, 1), (125, .istore 4, 2), (127, .iload 4, 2), (129, .ifCond .ne 57, 3), (132, .aload_n 0, 1), (133, .getfield 90, 3), (136, .iload_n 2, 1), (137, .iconst 1, 1), (138, .isub, 1), (139, .iaload, 1), (140, .istore 5, 2), (142, .aload_n 0, 1), (143, .getfield 90, 3), (146, .iload_n 2, 1), (147, .iconst 2, 1), (148, .isub, 1), (149, .iaload, 1), (150, .istore 6, 2), (152, .aload_n 0, 1), (153, .invokevirtual 307, 3), (156, .istore 7, 2), (158, .aload_n 0, 1), (159, .iload 5, 2), (161, .aload_n 0, 1), (162, .iload 6, 2), (164, .iload 7, 2), (166, .invokevirtual 313, 3), (169, .invokevirtual 317, 3), (172, .iinc 2 (-2), 3), (175, .aload_n 0, 1), (176, .getfield 90, 3), (179, .iload_n 2, 1), (180, .iload 7, 2), (182, .iastore, 1), (183, .goto 71, 3), (186, .iload 4, 2), (188, .iconst 1, 1), (189, .if_icmp .ne 31, 3), (192, .iinc 2 (-1), 3), (195, .aload_n 0, 1), (196, .getfield 90, 3), (199, .iload_n 2, 1), (200, .aload_n 0, 1), (201, .aload_n 0, 1), (202, .getfield 84, 3), (205, .iload_n 3, 1), (206, .iaload, 1), (207, .aload_n 0, 1), (208, .getfield 90, 3), (211, .iload_n 2, 1), (212, .iaload, 1), (213, .invokevirtual 313, 3), (216, .iastore, 1), (217, .goto 37, 3), (220, .aload_n 0, 1), (221, .getfield 90, 3), (224, .iload_n 2, 1), (225, .iload 4, 2), (227, .bipush 9, 2), (229, .if_icmp .le 17, 3), (232, .aload_n 0, 1), (233, .getfield 84, 3), (236, .aload_n 0, 1), (237, .getfield 81, 3), (240, .iload_n 3, 1), (241, .iaload, 1), (242, .iaload, 1), (243, .goto 10, 3), (246, .aload_n 0, 1), (247, .iload 4, 2), (249, .iload_n 1, 1), (250, .invokevirtual 320, 3), (253, .iastore, 1), (254, .iinc 2 1, 3), (257, .iinc 3 (-1), 3), (260, .goto (-145), 3), (263, .aload_n 0, 1), (264, .getfield 90, 3), (267, .iconst 0, 1), (268, .iaload, 1), (269, .ireturn, 1)]
def pm_mm203 : pm_M := (⟨"LambdaShelfModel", "infers", "()I"⟩, prog_11_method_67_code, 8, (Option.some FieldType.int), 0, 9, false, 1475, pm_cc203)
def pm_cc204 : List (Nat × Instr × Nat) := [(0, .aload_n 0, 1), (1, .getfield 60, 3), (4, .aload_n 0, 1), (5, .getfield 304, 3), (8, .bipush (-4), 2), (10, .iastore, 1), (11, .aload_n 0, 1), (12, .getfield 63, 3), (15, .aload_n 0, 1), (16, .getfield 304, 3), (19, .bipush (-4), 2), (21, .iastore, 1), (22, .aload_n 0, 1), (23, .dup, 1), (24, .getfield 304, 3), (27, .iconst 1, 1), (28, .iadd, 1), (29, .putfield 304, 3), (32, .aload_n 0, 1), (33, .getfield 304, 3), (36, .iconst 1, 1), (37, .isub, 1), (38, .ireturn, 1)]
def pm_mm204 : pm_M := (⟨"LambdaShelfModel", "any", "()I"⟩, prog_11_method_61_code, 1, (Option.some FieldType.int), 0, 9, false, 1479, pm_cc204)
def pm_cc205 : List (Nat × Instr × Nat) := [(0, .aload_n 0, 1), (1, .invokevirtual 307, 3), (4, .istore_n 3, 1), (5, .aload_n 0, 1), (6, .getfield 63, 3), (9, .iload_n 3, 1), (10, .iload_n 1, 1), (11, .iastore, 1), (12, .aload_n 0, 1), (13, .getfield 66, 3), (16, .iload_n 3, 1), (17, .iload_n 2, 1), (18, .iastore, 1), (19, .iload_n 3, 1), (20, .ireturn, 1)]
def pm_mm205 : pm_M := (⟨"LambdaShelfModel", "arrow", "(II)I"⟩, prog_11_method_62_code, 4, (Option.some FieldType.int), 2, 9, false, 1483, pm_cc205)
def pm_cc206 : List (Nat × Instr × Nat) := [(0, .iconst 1, 1), (1, .istore_n 3, 1), (2, .aload_n 0, 1), (3, .getfield 69, 3), (6, .iconst 0, 1), (7, .iload_n 1, 1), (8, .iastore, 1), (9, .aload_n 0, 1), (10, .getfield 72, 3), (13, .iconst 0, 1), (14, .iload_n 2, 1), (15, .iastore, 1), (16, .iload_n 3, 1), (17, .ifCond .le 177, 3), (20, .iinc 3 (-1), 3), (23, .aload_n 0, 1), (24, .aload_n 0, 1), (25, .getfield 69, 3), (28, .iload_n 3, 1), (29, .iaload, 1), (30, .invokevirtual 310, 3), (33, .istore 4, 2), (35, .aload_n 0, 1), (36, .aload_n 0, 1), (37, .getfield 72, 3), (40, .iload_n 3, 1), (41, .iaload, 1), (42, .invokevirtual 310, 3), (45, .istore 5, 2), (47, .iload 4, 2), (49, .iload 5, 2), (51, .if_icmp .eq 140, 3), (54, .aload_n 0, 1), (55, .getfield 63, 3), (58, .iload 4, 2), (60, .iaload, 1), (61, .bipush (-4), 2), (63, .if_icmp .eq 19, 3), (66, .aload_n 0, 1), (67, .getfield 63, 3), (70, .iload 5, 2), (72, .iaload, 1), (73, .bipush (-4), 2), (75, .if_icmp .eq 7, 3), (78, .iconst 1, 1), (79, .goto 4, 3), (82, .iconst 0, 1), (83, .istore 6, 2), (85, .aload_n 0, 1), (86, .getfield 63, 3), (89, .iload 4, 2), (91, .iaload, 1), (92, .bipush (-4), 2), (94, .if_icmp .ne 8, 3), (97, .iload 4, 2), (99, .goto 5, 3), (102, .iload 5, 2), (104, .istore 7, 2), (106, .aload_n 0, 1), (107, .getfield 60, 3), (110, .iload 7, 2), (112, .iload 7, 2), (114, .iload 4, 2), (116, .if_icmp .ne 8, 3), (119, .iload 5, 2), (121, .goto 5, 3), (124, .iload 4, 2), (126, .iastore, 1), (127, .iload 6, 2), (129, .ifCond .eq 62, 3), (132, .aload_n 0, 1), (133, .getfield 69, 3), (136, .iload_n 3, 1), (137, .aload_n 0, 1), (138, .getfield 63, 3), (141, .iload 4, 2), (143, .iaload, 1), (144, .iastore, 1), (145, .aload_n 0, 1), (146, .getfield 72, 3), (149, .iload_n 3, 1), (150, .aload_n 0, 1), (151, .getfield 63, 3), (154, .iload 5, 2), (156, .iaload, 1), (157, .iastore, 1), (158, .aload_n 0, 1), (159, .getfield 69, 3), (162, .iload_n 3, 1), (163, .iconst 1, 1), (164, .iadd, 1), (165, .aload_n 0, 1), (166, .getfield 66, 3), (169, .iload 4, 2), (171, .iaload, 1), (172, .iastore, 1), (173, .aload_n 0, 1), (174, .getfield 72, 3), (177, .iload_n 3, 1), (178, .iconst 1, 1), (179, .iadd, 1), (180, .aload_n 0, 1), (181, .getfield 66, 3), (184, .iload 5, 2), (186, .iaload, 1), (187, .iastore, 1), (188, .iinc 3 2, 3), (191, .goto (-175), 3), (194, .return_, 1)]
def pm_mm206 : pm_M := (⟨"LambdaShelfModel", "unite", "(II)V"⟩, prog_11_method_64_code, 8, (Option.none : Option FieldType), 2, 9, false, 1487, pm_cc206)
def pm_cc207 : List (Nat × Instr × Nat) := [(0, .iload_n 1, 1), (1, .istore_n 2, 1), (2, .aload_n 0, 1), (3, .getfield 60, 3), (6, .iload_n 2, 1), (7, .iaload, 1), (8, .bipush (-4), 2), (10, .if_icmp .eq 13, 3), (13, .aload_n 0, 1), (14, .getfield 60, 3), (17, .iload_n 2, 1), (18, .iaload, 1), (19, .istore_n 2, 1), (20, .goto (-18), 3), (23, .iload_n 2, 1), (24, .ireturn, 1)]
def pm_mm207 : pm_M := (⟨"LambdaShelfModel", "root", "(I)I"⟩, prog_11_method_63_code, 3, (Option.some FieldType.int), 1, 9, false, 1491, pm_cc207)
def pm_cc208 : List (Nat × Instr × Nat) := [(0, .iload_n 1, 1), (1, .iconst 5, 1), (2, .if_icmp .ne 10, 3), (5, .aload_n 0, 1), (6, .iload_n 2, 1), (7, .iload_n 2, 1), (8, .invokevirtual 313, 3), (11, .ireturn, 1), (12, .iload_n 1, 1), (13, .bipush 6, 2), (15, .if_icmp .ne 5, 3), (18, .iload_n 2, 1), (19, .ireturn, 1), (20, .aload_n 0, 1), (21, .invokevirtual 307, 3), (24, .istore_n 3, 1), (25, .iload_n 1, 1), (26, .iconst 4, 1), (27, .if_icmp .ne 10, 3), (30, .aload_n 0, 1), (31, .iload_n 3, 1), (32, .iload_n 3, 1), (33, .invokevirtual 313, 3), (36, .ireturn, 1), (37, .aload_n 0, 1), (38, .invokevirtual 307, 3), (41, .istore 4, 2), (43, .iload_n 1, 1), (44, .iconst 3, 1), (45, .if_icmp .ne 16, 3), (48, .aload_n 0, 1), (49, .iload_n 3, 1), (50, .aload_n 0, 1), (51, .iload 4, 2), (53, .iload_n 3, 1), (54, .invokevirtual 313, 3), (57, .invokevirtual 313, 3), (60, .ireturn, 1), (61, .aload_n 0, 1), (62, .invokevirtual 307, 3), (65, .istore 5, 2), (67, .aload_n 0, 1), (68, .aload_n 0, 1), (69, .iload_n 3, 1), (70, .aload_n 0, 1), (71, .iload 4, 2), (73, .iload 5, 2), (75, .invokevirtual 313, 3), (78, .invokevirtual 313, 3), (81, .aload_n 0, 1), (82, .aload_n 0, 1), (83, .iload_n 3, 1), (84, .iload 4, 2), (86, .invokevirtual 313, 3), (89, .aload_n 0, 1), (90, .iload_n 3, 1), (91, .iload 5, 2), (93, .invokevirtual 313, 3), (96, .invokevirtual 313, 3), (99, .invokevirtual 313, 3), (102, .ireturn, 1)]
def pm_mm208 : pm_M := (⟨"LambdaShelfModel", "typeOfLetter", "(II)I"⟩, prog_11_method_66_code, 6, (Option.some FieldType.int), 2, 9, false, 1495, pm_cc208)
def pm_cc209 : List (Nat × Instr × Nat) := [(0, .iconst 0, 1), (1, .istore_n 1, 1), (2, .iload_n 1, 1), (3, .aload_n 0, 1), (4, .getfield 304, 3), (7, .if_icmp .ge 16, 3), (10, .aload_n 0, 1), (11, .getfield 75, 3), (14, .iload_n 1, 1), (15, .iconst 0, 1), (16, .iastore, 1), (17, .iinc 1 1, 3), (20, .goto (-18), 3), (23, .iconst 0, 1), (24, .istore_n 1, 1), (25, .iload_n 1, 1), (26, .aload_n 0, 1), (27, .getfield 304, 3), (30, .if_icmp .ge 223, 3), (33, .iconst 0, 1), (34, .istore_n 2, 1), (35, .aload_n 0, 1), (36, .getfield 75, 3), (39, .aload_n 0, 1), (40, .iload_n 1, 1), (41, .invokevirtual 310, 3), (44, .iaload, 1), (45, .ifCond .ne 28, 3), (48, .aload_n 0, 1), (49, .getfield 78, 3), (52, .iconst 0, 1), (53, .aload_n 0, 1), (54, .iload_n 1, 1), (55, .invokevirtual 310, 3), (58, .iastore, 1), (59, .aload_n 0, 1), (60, .getfield 75, 3), (63, .aload_n 0, 1), (64, .getfield 78, 3), (67, .iconst 0, 1), (68, .iaload, 1), (69, .iconst 1, 1), (70, .iastore, 1), (71, .iconst 1, 1), (72, .istore_n 2, 1), (73, .iload_n 2, 1), (74, .ifCond .le 173, 3), (77, .aload_n 0, 1), (78, .getfield 78, 3), (81, .iload_n 2, 1), (82, .iconst 1, 1), (83, .isub, 1), (84, .iaload, 1), (85, .istore_n 3, 1), (86, .aload_n 0, 1), (87, .getfield 63, 3), (90, .iload_n 3, 1), (91, .iaload, 1), (92, .bipush (-4), 2), (94, .if_icmp .ne 8, 3), (97, .bipush (-4), 2), (99, .goto 13, 3), (102, .aload_n 0, 1), (103, .aload_n 0, 1), (104, .getfield 63, 3), (107, .iload_n 3, 1), (108, .iaload, 1), (109, .invokevirtual 310, 3), (112, .istore 4, 2), (114, .aload_n 0, 1), (115, .getfield 63, 3), (118, .iload_n 3, 1), (119, .iaload, 1), (120, .bipush (-4), 2), (122, .if_icmp .ne 8, 3), (125, .bipush (-4), 2), (127, .goto 13, 3), (130, .aload_n 0, 1), (131, .aload_n 0, 1), (132, .getfield 66, 3), (135, .iload_n 3, 1), (136, .iaload, 1), (137, .invokevirtual 310, 3), (140, .istore 5, 2), (142, .iload 4, 2), (144, .bipush (-4), 2), (146, .if_icmp .eq 19, 3), (149, .aload_n 0, 1), (150, .getfield 75, 3), (153, .iload 4, 2), (155, .iaload, 1), (156, .iconst 2, 1), (157, .if_icmp .ge 8, 3), (160, .iload 4, 2), (162, .goto 28, 3), (165, .iload 5, 2), (167, .bipush (-4), 2), (169, .if_icmp .eq 19, 3), (172, .aload_n 0, 1), (173, .getfield 75, 3), (176, .iload 5, 2), (178, .iaload, 1), (179, .iconst 2, 1), (180, .if_icmp .ge 8, 3), (183, .iload 5, 2), (185, .goto 5, 3), (188, .bipush (-4), 2), (190, .istore 6, 2), (192, .iload 6, 2), (194, .bipush (-4), 2), (196, .if_icmp .ne 16, 3), (199, .aload_n 0, 1), (200, .getfield 75, 3), (203, .iload_n 3, 1), (204, .iconst 2, 1), (205, .iastore, 1), (206, .iinc 2 (-1), 3), (209, .goto 35, 3), (212, .aload_n 0, 1), (213, .getfield 75, 3), (216, .iload 6, 2), (218, .iaload, 1), (219, .iconst 1, 1), (220, .if_icmp .ne 5, 3), (223, .iconst 0, 1), (224, .ireturn, 1), (225, .aload_n 0, 1), (226, .getfield 75, 3), (229, .iload 6, 2), (231, .iconst 1, 1), (232, .iastore, 1), (233, .aload_n 0, 1), (234, .getfield 78, 3), (237, .iload_n 2, 1), (238, .iload 6, 2), (240, .iastore, 1), (241, .iinc 2 1, 3), (244, .goto (-171), 3), (247, .iinc 1 1, 3), (250, .goto (-225), 3), (253, .iconst 1, 1), (254, .ireturn, 1)]
def pm_mm209 : pm_M := (⟨"LambdaShelfModel", "isFinite", "()Z"⟩, prog_11_method_65_code, 7, (Option.some FieldType.boolean), 0, 9, false, 1499, pm_cc209)
def pm_cc210 : List (Nat × Instr × Nat) := [(0, .iconst 0, 1), (1, .istore_n 2, 1), (2, .iload_n 2, 1), (3, .aload_n 0, 1), (4, .getfield 304, 3), (7, .if_icmp .ge 17, 3), (10, .aload_n 0, 1), (11, .getfield 99, 3), (14, .iload_n 2, 1), (15, .bipush (-4), 2), (17, .iastore, 1), (18, .iinc 2 1, 3), (21, .goto (-19), 3), (24, .iconst 0, 1), (25, .istore_n 2, 1), (26, .iconst 0, 1), (27, .istore_n 3, 1), (28, .iconst 1, 1), (29, .istore 4, 2), (31, .aload_n 0, 1), (32, .getfield 102, 3), (35, .iconst 0, 1), (36, .iload_n 1, 1), (37, .iastore, 1), (38, .iload 4, 2), (40, .ifCond .le 128, 3), (43, .iinc 4 (-1), 3), (46, .aload_n 0, 1), (47, .aload_n 0, 1), (48, .getfield 102, 3), (51, .iload 4, 2), (53, .iaload, 1), (54, .invokevirtual 310, 3), (57, .istore 5, 2), (59, .iload_n 2, 1), (60, .sipush 500, 3), (63, .if_icmp .ne 6, 3), (66, .bipush (-3), 2), (68, .ireturn, 1), (69, .aload_n 0, 1), (70, .getfield 63, 3), (73, .iload 5, 2), (75, .iaload, 1), (76, .bipush (-4), 2), (78, .if_icmp .ne 44, 3), (81, .aload_n 0, 1), (82, .getfield 99, 3), (85, .iload 5, 2), (87, .iaload, 1), (88, .bipush (-4), 2), (90, .if_icmp .ne 14, 3), (93, .aload_n 0, 1), (94, .getfield 99, 3), (97, .iload 5, 2), (99, .iload_n 3, 1), (100, .iastore, 1), (101, .iinc 3 1, 3), (104, .aload_n 0, 1), (105, .getfield 96, 3), (108, .iload_n 2, 1), (109, .iconst 1, 1), (110, .aload_n 0, 1), (111, .getfield 99, 3), (114, .iload 5, 2), (116, .iaload, 1), (117, .iadd, 1), (118, .iastore, 1), (119, .goto 43, 3), (122, .aload_n 0, 1), (123, .getfield 96, 3), (126, .iload_n 2, 1), (127, .iconst 0, 1), (128, .iastore, 1), (129, .aload_n 0, 1), (130, .getfield 102, 3), (133, .iload 4, 2), (135, .aload_n 0, 1), (136, .getfield 66, 3), (139, .iload 5, 2), (141, .iaload, 1), (142, .iastore, 1), (143, .aload_n 0, 1), (144, .getfield 102, 3), (147, .iload 4, 2), (149, .iconst 1, 1), (150, .iadd, 1), (151, .aload_n 0, 1), (152, .getfield 63, 3), (155, .iload 5, 2), (157, .iaload, 1), (158, .iastore, 1), (159, .iinc 4 2, 3), (162, .iinc 2 1, 3), (165, .goto (-127), 3), (168, .iload_n 2, 1), (169, .ireturn, 1)]
def pm_mm210 : pm_M := (⟨"LambdaShelfModel", "lays", "(I)I"⟩, prog_11_method_68_code, 6, (Option.some FieldType.int), 1, 9, false, 1503, pm_cc210)
def pm_cc211 : List (Nat × Instr × Nat) := [(0, .iload_n 1, 1), (1, .i2l, 1), (2, .lconst 0, 1), (3, .aload_n 0, 1), (4, .getfield 332, 3), (7, .iconst 1, 1), (8, .isub, 1), (9, .i2l, 1), (10, .invokestatic 113, 3), (13, .ifCond .eq 12, 3), (16, .aload_n 0, 1), (17, .getfield 93, 3), (20, .iload_n 1, 1), (21, .iaload, 1), (22, .goto 4, 3), (25, .iconst (-1), 1), (26, .ireturn, 1)]
def pm_mm211 : pm_M := (⟨"LambdaShelfModel", "type", "(I)I"⟩, prog_11_method_70_code, 2, (Option.some FieldType.int), 1, 9, false, 1507, pm_cc211)
def pm_cc212 : List (Nat × Instr × Nat) := [(0, .aload_n 0, 1), (1, .iload_n 1, 1), (2, .invokevirtual 213, 3), (5, .ifCond .eq 15, 3), (8, .iload_n 2, 1), (9, .i2l, 1), (10, .lconst 0, 1), (11, .ldc2_w 335, 3), (14, .invokestatic 113, 3), (17, .ifCond .ne 5, 3), (20, .iconst (-1), 1), (21, .ireturn, 1), (22, .aload_n 0, 1), (23, .iload_n 1, 1), (24, .invokevirtual 231, 3), (27, .aload_n 0, 1), (28, .iconst 0, 1), (29, .invokevirtual 225, 3), (32, .iconst 0, 1), (33, .istore_n 3, 1), (34, .iconst 0, 1), (35, .istore 4, 2), (37, .iconst 0, 1), (38, .istore 5, 2), (40, .iconst 0, 1), (41, .istore 6, 2), (43, .iload 6, 2), (45, .aload_n 0, 1), (46, .getfield 117, 3), (49, .if_icmp .ge 99, 3), (52, .aload_n 0, 1), (53, .getfield 19, 3), (56, .iload 6, 2), (58, .iaload, 1), (59, .iconst 1, 1), (60, .if_icmp .ne 28, 3), (63, .aload_n 0, 1), (64, .getfield 22, 3), (67, .iload 6, 2), (69, .iaload, 1), (70, .iconst 1, 1), (71, .iadd, 1), (72, .iload_n 3, 1), (73, .if_icmp .le 15, 3), (76, .aload_n 0, 1), (77, .getfield 22, 3), (80, .iload 6, 2), (82, .iaload, 1), (83, .iconst 1, 1), (84, .iadd, 1), (85, .goto 4, 3), (88, .iload_n 3, 1), (89, .istore_n 3, 1), (90, .iload 4, 2), (92, .aload_n 0, 1), (93, .getfield 19, 3), (96, .iload 6, 2), (98, .iaload, 1), (99, .bipush 9, 2), (101, .if_icmp .le 7, 3), (104, .iconst 1, 1), (105, .goto 4, 3), (108, .iconst 0, 1), (109, .iadd, 1), (110, .istore 4, 2), (112, .iload 5, 2), (114, .aload_n 0, 1), (115, .getfield 19, 3), (118, .iload 6, 2), (120, .iaload, 1), (121, .i2l, 1), (122, .ldc2_w 337, 3), (125, .ldc2_w 339, 3), (128, .invokestatic 113, 3), (131, .ifCond .eq 7, 3), (134, .iconst 1, 1), (135, .goto 4, 3), (138, .iconst 0, 1), (139, .iadd, 1), (140, .istore 5, 2), (142, .iinc 6 1, 3), (145, .goto (-102), 3), (148, .iload_n 2, 1), (149, .ifCond .ne 7, 3), (152, .iload_n 3, 1), (153, .goto 52, 3), (156, .iload_n 2, 1), (157, .iconst 1, 1), (158, .if_icmp .ne 15, 3), (161, .iload_n 3, 1), (162, .ifCond .le 7, 3), (165, .iconst 1, 1), (166, .goto 39, 3), (169, .iconst 0, 1), (170, .goto 35, 3), (173, .iload_n 2, 1), (174, .iconst 2, 1), (175, .if_icmp .ne 8, 3), (178, .iload 4, 2), (180, .goto 25, 3), (183, .iload_n 2, 1), (184, .iconst 3, 1), (185, .if_icmp .ne 8, 3), (188, .iload 5, 2), (190, .goto 15, 3), (193, .aload_n 0, 1), (194, .invokevirtual 284, 3), (197, .ifCond .ne 7, 3), (200, .iconst 1, 1), (201, .goto 4, 3), (204, .iconst 0, 1), (205, .ireturn, 1)]
def pm_mm212 : pm_M := (⟨"LambdaShelfModel", "about", "(II)I"⟩, prog_11_method_71_code, 7, (Option.some FieldType.int), 2, 9, false, 1511, pm_cc212)
def pm_cc213 : List (Nat × Instr × Nat) := [(0, .aload_n 0, 1), (1, .getfield 204, 3), (4, .ifCond .ne 6, 3), (7, .bipush (-4), 2), (9, .ireturn, 1), (10, .aload_n 0, 1), (11, .dup, 1), (12, .getfield 204, 3), (15, .iconst 1, 1), (16, .isub, 1), (17, .putfield 204, 3), (20, .aload_n 0, 1), (21, .getfield 204, 3), (24, .ireturn, 1)]
def pm_mm213 : pm_M := (⟨"LambdaShelfModel", "drop", "()I"⟩, prog_11_method_72_code, 1, (Option.some FieldType.int), 0, 9, false, 1518, pm_cc213)
def pm_cc214 : List (Nat × Instr × Nat) := [(0, .iconst 0, 1), (1, .istore_n 2, 1), (2, .iconst 0, 1), (3, .istore_n 3, 1), (4, .iload_n 3, 1), (5, .aload_n 0, 1), (6, .getfield 204, 3), (9, .if_icmp .ge 18, 3), (12, .iload_n 2, 1), (13, .aload_n 0, 1), (14, .getfield 7, 3), (17, .iload_n 3, 1), (18, .iaload, 1), (19, .iadd, 1), (20, .istore_n 2, 1), (21, .iinc 3 1, 3), (24, .goto (-20), 3), (27, .iload_n 1, 1), (28, .ifCond .ne 10, 3), (31, .aload_n 0, 1), (32, .getfield 204, 3), (35, .goto 25, 3), (38, .iload_n 1, 1), (39, .iconst 1, 1), (40, .if_icmp .ne 10, 3), (43, .aload_n 0, 1), (44, .getfield 105, 3), (47, .goto 13, 3), (50, .iload_n 1, 1), (51, .iconst 2, 1), (52, .if_icmp .ne 7, 3), (55, .iload_n 2, 1), (56, .goto 4, 3), (59, .iconst (-1), 1), (60, .ireturn, 1)]
def pm_mm214 : pm_M := (⟨"LambdaShelfModel", "count", "(I)I"⟩, prog_11_method_73_code, 4, (Option.some FieldType.int), 1, 9, false, 1522, pm_cc214)
def pm_g0 : List pm_M := [pm_mm0, pm_mm1, pm_mm2, pm_mm3, pm_mm4, pm_mm5, pm_mm6, pm_mm7, pm_mm8, pm_mm9, pm_mm10, pm_mm11, pm_mm12, pm_mm13, pm_mm14, pm_mm15, pm_mm16, pm_mm17, pm_mm18, pm_mm19]
def pm_g1 : List pm_M := [pm_mm20, pm_mm21, pm_mm22, pm_mm23, pm_mm24, pm_mm25, pm_mm26, pm_mm27, pm_mm28, pm_mm29, pm_mm30, pm_mm31, pm_mm32, pm_mm33, pm_mm34, pm_mm35, pm_mm36, pm_mm37, pm_mm38, pm_mm39]
def pm_g2 : List pm_M := [pm_mm40, pm_mm41, pm_mm42, pm_mm43, pm_mm44, pm_mm45, pm_mm46, pm_mm47, pm_mm48, pm_mm49, pm_mm50, pm_mm51, pm_mm52, pm_mm53, pm_mm54, pm_mm55, pm_mm56, pm_mm57, pm_mm58, pm_mm59]
def pm_g3 : List pm_M := [pm_mm60, pm_mm61, pm_mm62, pm_mm63, pm_mm64, pm_mm65, pm_mm66, pm_mm67, pm_mm68, pm_mm69, pm_mm70, pm_mm71, pm_mm72, pm_mm73, pm_mm74, pm_mm75, pm_mm76, pm_mm77, pm_mm78, pm_mm79]
def pm_g4 : List pm_M := [pm_mm80, pm_mm81, pm_mm82, pm_mm83, pm_mm84, pm_mm85, pm_mm86, pm_mm87, pm_mm88, pm_mm89, pm_mm90, pm_mm91, pm_mm92, pm_mm93, pm_mm94, pm_mm95, pm_mm96, pm_mm97, pm_mm98, pm_mm99]
def pm_g5 : List pm_M := [pm_mm100, pm_mm101, pm_mm102, pm_mm103, pm_mm104, pm_mm105, pm_mm106, pm_mm107, pm_mm108, pm_mm109, pm_mm110, pm_mm111, pm_mm112, pm_mm113, pm_mm114, pm_mm115, pm_mm116, pm_mm117, pm_mm118, pm_mm119]
def pm_g6 : List pm_M := [pm_mm120, pm_mm121, pm_mm122, pm_mm123, pm_mm124, pm_mm125, pm_mm126, pm_mm127, pm_mm128, pm_mm129, pm_mm130, pm_mm131, pm_mm132, pm_mm133, pm_mm134, pm_mm135, pm_mm136, pm_mm137, pm_mm138, pm_mm139]
def pm_g7 : List pm_M := [pm_mm140, pm_mm141, pm_mm142, pm_mm143, pm_mm144, pm_mm145, pm_mm146, pm_mm147, pm_mm148, pm_mm149, pm_mm150, pm_mm151, pm_mm152, pm_mm153, pm_mm154, pm_mm155, pm_mm156, pm_mm157, pm_mm158, pm_mm159]
def pm_g8 : List pm_M := [pm_mm160, pm_mm161, pm_mm162, pm_mm163, pm_mm164, pm_mm165, pm_mm166, pm_mm167, pm_mm168, pm_mm169, pm_mm170, pm_mm171, pm_mm172, pm_mm173, pm_mm174, pm_mm175, pm_mm176, pm_mm177, pm_mm178, pm_mm179]
def pm_g9 : List pm_M := [pm_mm180, pm_mm181, pm_mm182, pm_mm183, pm_mm184, pm_mm185, pm_mm186, pm_mm187, pm_mm188, pm_mm189, pm_mm190, pm_mm191, pm_mm192, pm_mm193, pm_mm194, pm_mm195, pm_mm196, pm_mm197, pm_mm198, pm_mm199]
def pm_g10 : List pm_M := [pm_mm200, pm_mm201, pm_mm202, pm_mm203, pm_mm204, pm_mm205, pm_mm206, pm_mm207, pm_mm208, pm_mm209, pm_mm210, pm_mm211, pm_mm212, pm_mm213, pm_mm214]
def pm_tab : List pm_M := pm_g0 ++ (pm_g1 ++ (pm_g2 ++ (pm_g3 ++ (pm_g4 ++ (pm_g5 ++ (pm_g6 ++ (pm_g7 ++ (pm_g8 ++ (pm_g9 ++ (pm_g10))))))))))
def pm_fls : List (String × List (Nat × Nat × Nat × Nat × Nat)) := [("LambdaShelf$Abstracter", [(11, 0, 1, 2, 806), (15, 0, 2, 2, 807), (23, 0, 3, 2, 808), (27, 0, 4, 2, 809), (30, 0, 0, 2, 805), (34, 0, 5, 0, 810), (38, 1, 1, 1, 177), (53, 1, 2, 1, 182)]), ("LambdaShelf$Code", [(15, 1, 0, 2, 174), (21, 1, 1, 0, 175), (25, 1, 2, 0, 184)]), ("LambdaShelf$Reader", [(9, 2, 0, 2, 214), (15, 2, 1, 2, 215), (18, 2, 2, 2, 216), (21, 2, 3, 2, 217), (25, 2, 4, 0, 218), (29, 2, 6, 0, 220), (32, 2, 7, 0, 221), (35, 2, 10, 0, 224), (38, 2, 11, 0, 225), (41, 2, 12, 0, 226), (54, 2, 8, 0, 222), (63, 4, 1, 1, 157), (72, 2, 9, 0, 223), (140, 2, 5, 0, 219), (143, 1, 2, 1, 187)]), ("LambdaShelf$Shape", [(11, 3, 0, 2, 201), (17, 3, 1, 2, 202), (48, 1, 1, 1, 180)]), ("LambdaShelf$Tape", [(9, 4, 0, 2, 154), (15, 4, 1, 0, 156)]), ("LambdaShelf$Teller", [(9, 5, 0, 2, 261), (15, 5, 1, 0, 262), (19, 5, 2, 0, 263), (22, 5, 3, 0, 264), (25, 5, 4, 0, 265), (28, 5, 5, 0, 266), (31, 1, 1, 1, 179)]), ("LambdaShelf$Turner", [(14, 6, 1, 2, 289), (20, 6, 0, 2, 288), (24, 1, 1, 1, 176), (102, 1, 2, 1, 186)]), ("LambdaShelf$Typer", [(11, 7, 1, 2, 897), (15, 7, 2, 2, 898), (18, 7, 3, 2, 899), (21, 7, 4, 2, 900), (24, 7, 5, 2, 901), (27, 7, 6, 2, 902), (30, 7, 7, 2, 903), (38, 7, 8, 2, 904), (42, 7, 9, 2, 905), (45, 7, 0, 2, 896), (49, 7, 10, 0, 907), (53, 7, 11, 0, 908), (56, 1, 1, 1, 178), (69, 7, 12, 0, 909), (93, 1, 2, 1, 183)]), ("LambdaShelf", [(10, 8, 0, 2, 295), (18, 8, 1, 2, 296), (25, 8, 2, 2, 297), (32, 8, 3, 2, 298), (41, 8, 4, 2, 299), (48, 8, 5, 2, 300), (57, 8, 6, 2, 301), (61, 4, 1, 1, 155), (76, 8, 10, 0, 305), (83, 2, 12, 1, 227), (90, 1, 1, 1, 181), (106, 1, 2, 1, 185), (124, 8, 12, 0, 307), (127, 8, 11, 0, 306), (142, 8, 7, 0, 302), (159, 8, 8, 0, 303), (169, 7, 9, 3, 906), (179, 8, 9, 0, 304)]), ("LambdaShelfModel", [(7, 9, 1, 2, 1079), (13, 9, 2, 2, 1080), (16, 9, 3, 2, 1081), (19, 9, 5, 2, 1083), (22, 9, 7, 2, 1085), (25, 9, 8, 2, 1086), (28, 9, 15, 2, 1093), (31, 9, 16, 2, 1094), (35, 9, 17, 2, 1095), (38, 9, 19, 2, 1097), (42, 9, 22, 2, 1100), (45, 9, 24, 2, 1102), (48, 9, 25, 2, 1103), (51, 9, 26, 2, 1104), (54, 9, 27, 2, 1105), (57, 9, 29, 2, 1107), (60, 9, 33, 2, 1111), (63, 9, 34, 2, 1112), (66, 9, 35, 2, 1113), (69, 9, 36, 2, 1114), (72, 9, 37, 2, 1115), (75, 9, 38, 2, 1116), (78, 9, 39, 2, 1117), (81, 9, 40, 2, 1118), (84, 9, 41, 2, 1119), (87, 9, 42, 2, 1120), (90, 9, 43, 2, 1121), (93, 9, 44, 2, 1122), (96, 9, 46, 2, 1124), (99, 9, 47, 2, 1125), (102, 9, 48, 2, 1126), (105, 9, 4, 0, 1082), (117, 9, 6, 0, 1084), (120, 9, 13, 0, 1091), (123, 9, 14, 0, 1092), (126, 9, 9, 0, 1087), (133, 9, 10, 0, 1088), (136, 9, 12, 0, 1090), (140, 9, 11, 0, 1089), (167, 9, 18, 0, 1096), (179, 9, 20, 0, 1098), (182, 9, 21, 0, 1099), (204, 9, 0, 0, 1078), (216, 9, 23, 0, 1101), (249, 9, 28, 0, 1106), (278, 9, 30, 0, 1108), (281, 9, 31, 0, 1109), (304, 9, 32, 0, 1110), (332, 9, 45, 0, 1123)]), ("LambdaShelfLaw", [])]
def pm_mls : List (String × List (Nat × Nat × Nat × Nat × Nat × Nat)) := [("LambdaShelf$Abstracter", [(3, 4, 0, 802, 146, 147), (20, 1, 3, 804, 168, 0), (41, 0, 47, 828, 574, 575), (45, 0, 96, 829, 831, 44), (49, 0, 103, 862, 864, 51), (57, 0, 98, 838, 840, 46), (60, 0, 40, 842, 546, 547), (63, 0, 97, 833, 835, 45), (66, 0, 70, 843, 693, 694), (72, 0, 99, 844, 846, 47), (75, 0, 100, 848, 850, 48), (78, 0, 13, 837, 356, 357), (81, 0, 72, 852, 704, 705), (84, 5, 0, 853, 172, 173), (90, 0, 101, 854, 856, 49), (94, 0, 102, 858, 860, 50)]), ("LambdaShelf$Code", [(3, 4, 0, 170, 146, 147), (9, 5, 0, 171, 172, 173), (29, 7, 0, 649, 650, 651), (35, 0, 59, 645, 646, 647), (39, 0, 47, 664, 574, 575)]), ("LambdaShelf$Reader", [(3, 4, 0, 213, 146, 147), (44, 0, 15, 363, 365, 1), (47, 0, 17, 371, 373, 3), (50, 0, 38, 538, 540, 21), (57, 0, 18, 375, 377, 4), (60, 0, 26, 490, 492, 9), (68, 0, 19, 379, 380, 381), (75, 3, 20, 383, 384, 0), (79, 0, 21, 386, 388, 5), (82, 3, 23, 394, 395, 0), (85, 0, 24, 397, 399, 7), (95, 0, 22, 390, 392, 6), (99, 0, 25, 401, 403, 8), (103, 0, 27, 494, 496, 10), (106, 0, 29, 502, 504, 12), (109, 0, 31, 510, 512, 14), (112, 0, 33, 518, 520, 16), (115, 0, 37, 534, 536, 20), (118, 0, 28, 498, 500, 11), (121, 0, 16, 367, 369, 2), (124, 0, 32, 514, 516, 15), (127, 0, 34, 522, 524, 17), (130, 0, 30, 506, 508, 13), (133, 0, 36, 530, 532, 19), (137, 0, 35, 526, 528, 18), (149, 3, 39, 542, 543, 0), (153, 0, 40, 545, 546, 547), (156, 3, 41, 549, 550, 0)]), ("LambdaShelf$Shape", [(3, 4, 0, 200, 146, 147), (20, 6, 0, 696, 436, 437), (26, 5, 0, 697, 172, 173), (29, 0, 47, 698, 574, 575), (35, 0, 71, 699, 701, 33), (38, 0, 73, 707, 709, 34), (42, 0, 74, 711, 713, 35), (45, 0, 75, 715, 716, 717), (52, 0, 70, 1055, 693, 694), (56, 0, 72, 703, 704, 705)]), ("LambdaShelf$Tape", [(3, 4, 0, 153, 146, 147)]), ("LambdaShelf$Teller", [(3, 4, 0, 260, 146, 147), (36, 0, 47, 585, 574, 575), (40, 0, 50, 586, 588, 24), (44, 0, 51, 590, 592, 25), (48, 0, 52, 594, 596, 26), (51, 0, 53, 598, 600, 27), (54, 0, 54, 602, 604, 28), (57, 0, 55, 606, 608, 29), (60, 0, 56, 631, 633, 30), (63, 6, 0, 635, 436, 437)]), ("LambdaShelf$Turner", [(3, 4, 0, 285, 146, 147), (11, 1, 3, 287, 168, 0), (28, 3, 68, 684, 685, 0), (32, 0, 67, 680, 682, 31), (36, 0, 69, 688, 690, 32), (39, 0, 76, 720, 722, 36), (42, 0, 77, 724, 726, 37), (45, 0, 66, 676, 677, 678), (48, 0, 81, 741, 742, 743), (52, 0, 70, 692, 693, 694), (58, 0, 13, 745, 356, 357), (61, 0, 72, 719, 704, 705), (64, 0, 82, 746, 748, 40), (68, 0, 84, 755, 757, 42), (71, 0, 86, 764, 765, 766), (75, 0, 47, 687, 574, 575), (78, 0, 78, 728, 730, 38), (82, 0, 75, 732, 716, 717), (85, 0, 79, 733, 735, 39), (89, 0, 80, 737, 738, 739), (93, 0, 59, 759, 646, 647), (96, 0, 85, 760, 762, 43), (99, 0, 40, 754, 546, 547), (106, 0, 83, 750, 752, 41)]), ("LambdaShelf$Typer", [(3, 4, 0, 893, 146, 147), (35, 1, 3, 895, 168, 0), (59, 0, 70, 941, 693, 694), (65, 0, 112, 942, 944, 53), (72, 0, 115, 954, 956, 55), (75, 0, 47, 958, 574, 575), (79, 0, 116, 959, 961, 56), (82, 0, 117, 963, 965, 57), (86, 0, 130, 1016, 1018, 69), (90, 0, 135, 1036, 1038, 74), (97, 0, 13, 1040, 356, 357), (100, 0, 58, 1042, 642, 643), (104, 0, 118, 967, 969, 58), (107, 0, 75, 971, 716, 717), (110, 0, 119, 972, 974, 59), (113, 0, 120, 976, 978, 60), (117, 0, 80, 999, 738, 739), (121, 3, 123, 988, 989, 0), (124, 0, 126, 1000, 1002, 65), (127, 0, 113, 946, 948, 54), (130, 3, 114, 951, 952, 0), (134, 0, 127, 1004, 1006, 66), (138, 0, 128, 1008, 1010, 67), (141, 0, 129, 1012, 1014, 68), (144, 6, 0, 950, 436, 437), (149, 0, 121, 980, 982, 61), (152, 0, 122, 984, 986, 62), (155, 0, 124, 991, 993, 63), (159, 0, 125, 995, 997, 64), (162, 0, 131, 1020, 1022, 70), (165, 0, 134, 1032, 1034, 73), (168, 0, 132, 1024, 1026, 71), (171, 0, 133, 1028, 1030, 72), (174, 0, 40, 1041, 546, 547)]), ("LambdaShelf", [(1, 4, 0, 145, 146, 147), (9, 2, 2, 150, 151, 0), (22, 1, 3, 167, 168, 0), (31, 2, 4, 197, 198, 0), (38, 1, 5, 210, 211, 0), (47, 2, 6, 257, 258, 0), (54, 1, 7, 282, 283, 0), (65, 0, 9, 339, 340, 341), (68, 0, 12, 351, 353, 0), (72, 0, 14, 359, 360, 361), (79, 0, 42, 552, 554, 22), (86, 0, 45, 565, 567, 23), (91, 0, 47, 573, 574, 575), (95, 0, 49, 581, 582, 583), (99, 0, 40, 640, 546, 547), (102, 0, 58, 641, 642, 643), (110, 0, 62, 660, 661, 662), (114, 3, 64, 669, 670, 0), (118, 0, 65, 672, 673, 674), (121, 3, 88, 772, 773, 0), (130, 5, 0, 775, 172, 173), (136, 0, 66, 784, 677, 678), (139, 0, 92, 789, 790, 791), (148, 1, 94, 799, 800, 0), (149, 0, 95, 824, 825, 826), (153, 3, 105, 870, 871, 0), (156, 0, 108, 880, 882, 52), (165, 1, 110, 890, 891, 0), (166, 0, 111, 937, 938, 939), (172, 0, 138, 1051, 1052, 1053), (175, 0, 139, 1056, 1057, 1058), (182, 0, 142, 1068, 1070, 75), (185, 0, 13, 355, 356, 357), (188, 3, 106, 873, 874, 0)]), ("LambdaShelfModel", [(1, 4, 0, 1077, 146, 147), (109, 0, 145, 1232, 1234, 76), (113, 3, 147, 1240, 1241, 0), (129, 0, 152, 1259, 1261, 80), (151, 0, 153, 1267, 1269, 81), (163, 3, 154, 1275, 1276, 0), (170, 0, 156, 1282, 1284, 83), (173, 0, 157, 1286, 1288, 84), (176, 0, 151, 1255, 1257, 79), (185, 0, 159, 1294, 1296, 86), (189, 0, 150, 1251, 1253, 78), (192, 0, 155, 1278, 1280, 82), (195, 0, 158, 1290, 1292, 85), (198, 0, 160, 1298, 1300, 87), (201, 0, 161, 1302, 1304, 88), (207, 0, 149, 1247, 1249, 77), (210, 0, 162, 1306, 1308, 89), (213, 0, 165, 1318, 1320, 90), (219, 0, 172, 1346, 1348, 95), (222, 0, 170, 1338, 1340, 93), (225, 0, 171, 1342, 1344, 94), (228, 0, 173, 1350, 1352, 96), (231, 0, 168, 1330, 1332, 91), (234, 0, 169, 1334, 1336, 92), (237, 0, 182, 1387, 1389, 101), (240, 0, 180, 1379, 1381, 99), (243, 0, 181, 1383, 1385, 100), (246, 0, 183, 1391, 1393, 102), (252, 0, 185, 1399, 1401, 104), (255, 0, 187, 1407, 1409, 106), (259, 0, 188, 1411, 1413, 107), (262, 0, 184, 1395, 1397, 103), (265, 0, 179, 1375, 1377, 98), (268, 0, 186, 1403, 1405, 105), (273, 0, 178, 1371, 1373, 97), (284, 0, 193, 1432, 1434, 108), (287, 0, 197, 1448, 1450, 111), (291, 0, 198, 1452, 1454, 112), (294, 0, 196, 1444, 1446, 110), (297, 0, 195, 1440, 1442, 109), (301, 0, 200, 1460, 1462, 113), (307, 0, 204, 1476, 1478, 115), (310, 0, 207, 1488, 1490, 118), (313, 0, 205, 1480, 1482, 116), (317, 0, 206, 1484, 1486, 117), (320, 0, 208, 1492, 1494, 119), (323, 0, 203, 1472, 1474, 114), (326, 0, 209, 1496, 1498, 120), (329, 0, 210, 1500, 1502, 121)]), ("LambdaShelfLaw", [(9, 1, 1, 142, 143, 0), (12, 1, 143, 1074, 1075, 0), (13, 0, 8, 335, 336, 337), (17, 0, 144, 1228, 1229, 1230), (18, 0, 10, 343, 344, 345), (22, 0, 146, 1236, 1237, 1238), (23, 0, 11, 347, 348, 349), (27, 0, 148, 1243, 1244, 1245), (28, 0, 43, 557, 558, 559), (31, 0, 163, 1310, 1311, 1312), (32, 0, 44, 561, 562, 563), (35, 0, 164, 1314, 1315, 1316), (36, 0, 46, 569, 570, 571), (40, 0, 166, 1322, 1323, 1324), (41, 0, 48, 577, 578, 579), (44, 0, 167, 1326, 1327, 1328), (45, 0, 57, 636, 637, 638), (48, 0, 174, 1354, 1355, 1356), (49, 0, 60, 652, 653, 654), (52, 0, 175, 1358, 1359, 1360), (53, 0, 61, 656, 657, 658), (56, 0, 176, 1362, 1363, 1364), (57, 0, 63, 665, 666, 667), (60, 0, 177, 1366, 1367, 1368), (61, 0, 87, 768, 769, 770), (65, 0, 189, 1415, 1416, 1417), (66, 0, 89, 776, 777, 778), (69, 0, 190, 1420, 1421, 1422), (70, 0, 90, 780, 781, 782), (73, 0, 191, 1424, 1425, 1426), (74, 0, 91, 785, 786, 787), (77, 0, 192, 1428, 1429, 1430), (78, 0, 93, 793, 794, 795), (81, 0, 194, 1436, 1437, 1438), (82, 0, 104, 866, 867, 868), (85, 0, 199, 1456, 1457, 1458), (86, 0, 107, 876, 877, 878), (89, 0, 201, 1464, 1465, 1466), (90, 0, 109, 884, 885, 886), (93, 0, 202, 1468, 1469, 1470), (94, 0, 136, 1043, 1044, 1045), (97, 0, 211, 1504, 1505, 1506), (98, 0, 137, 1047, 1048, 1049), (101, 0, 212, 1508, 1509, 1510), (102, 0, 140, 1060, 1061, 1062), (105, 0, 213, 1515, 1516, 1517), (106, 0, 141, 1064, 1065, 1066), (109, 0, 214, 1519, 1520, 1521)])]
def pm_nls : List (String × List (Nat × Nat × Nat)) := [("LambdaShelf$Abstracter", [(18, 1, 803)]), ("LambdaShelf$Code", []), ("LambdaShelf$Reader", []), ("LambdaShelf$Shape", []), ("LambdaShelf$Tape", []), ("LambdaShelf$Teller", []), ("LambdaShelf$Turner", [(9, 1, 286)]), ("LambdaShelf$Typer", [(33, 1, 894)]), ("LambdaShelf", [(7, 4, 148), (16, 1, 164), (29, 3, 195), (36, 2, 208), (45, 5, 255), (52, 6, 280), (146, 0, 797), (163, 7, 888)]), ("LambdaShelfModel", []), ("LambdaShelfLaw", [(7, 8, 140), (10, 9, 1072)])]
def pm_als : List (String × List (Nat × Nat)) := [("LambdaShelf$Abstracter", []), ("LambdaShelf$Code", []), ("LambdaShelf$Reader", []), ("LambdaShelf$Shape", []), ("LambdaShelf$Tape", []), ("LambdaShelf$Teller", []), ("LambdaShelf$Turner", []), ("LambdaShelf$Typer", []), ("LambdaShelf", [(16, 164)]), ("LambdaShelfModel", []), ("LambdaShelfLaw", [])]
def pm_lls : List (String × List (Nat × Int64 × Nat)) := [("LambdaShelf$Abstracter", []), ("LambdaShelf$Code", []), ("LambdaShelf$Reader", []), ("LambdaShelf$Shape", []), ("LambdaShelf$Tape", []), ("LambdaShelf$Teller", []), ("LambdaShelf$Turner", []), ("LambdaShelf$Typer", []), ("LambdaShelf", []), ("LambdaShelfModel", [(143, 97, 1263), (145, 122, 1264), (147, 27, 1265), (149, 96, 1266), (155, 48, 1271), (157, 57, 1272), (159, 10, 1273), (161, 20, 1274), (271, 3, 1370), (276, 200, 1419), (335, 4, 1512), (337, 2, 1513), (339, 6, 1514)]), ("LambdaShelfLaw", [])]
def pm_ow (c : Nat) : String := (pm_fls.getD c ("", [])).1
def pm_fr (c idx : Nat) : Option (Nat × Nat × Nat × Nat) := pm_as (pm_fls.getD c ("", [])).2 idx
def pm_mr (c idx : Nat) : Option (Nat × Nat × Nat × Nat × Nat) := pm_as (pm_mls.getD c ("", [])).2 idx
def pm_nr (c idx : Nat) : Option (Nat × Nat) := pm_as (pm_nls.getD c ("", [])).2 idx
def pm_ar (c idx : Nat) : Option Nat := pm_as (pm_als.getD c ("", [])).2 idx
def pm_lk (c idx : Nat) : Option (Int64 × Nat) := pm_as (pm_lls.getD c ("", [])).2 idx
def pm_arp : List (ArrayType × Nat) := [(.int, 163), (.boolean, 1226), (.long, 1227)]
def pm_cwp : List (List Nat × Nat × Nat) := [([811, 813, 815, 817, 819, 821], 798, 138), ([188, 190, 192], 166, 125), ([228, 230, 232, 234, 236, 238, 240, 242, 244, 246, 248, 250, 252], 209, 128), ([203, 205], 196, 127), ([158, 160], 149, 124), ([267, 269, 271, 273, 275, 277], 256, 129), ([290, 292], 281, 130), ([910, 912, 914, 916, 918, 920, 922, 924, 926, 928, 930, 932, 934], 889, 139), ([308, 310, 312, 314, 316, 318, 320, 322, 324, 326, 328, 330, 332], 141, 123), ([1127, 1129, 1131, 1133, 1135, 1137, 1139, 1141, 1143, 1145, 1147, 1149, 1151, 1153, 1155, 1157, 1159, 1161, 1163, 1165, 1167, 1169, 1171, 1173, 1175, 1177, 1179, 1181, 1183, 1185, 1187, 1189, 1191, 1193, 1195, 1197, 1199, 1201, 1203, 1205, 1207, 1209, 1211, 1213, 1215, 1217, 1219, 1221, 1223], 1073, 131)]
end
section
/-! THE TABLES HOLD: by evaluation -/
def pm_tb : List Cond := lw_tbl.filter goodWord
def pm_at (p : Nat) (w : Cond) : Bool := decide (lw_tbl[p]? = some w)
theorem pm_at_mem {p : Nat} {w : Cond} (h : pm_at p w = true) : w ∈ lw_tbl := List.mem_of_getElem? (of_decide_eq_true h)
theorem pm_at_good {p : Nat} {w : Cond} (h : pm_at p w = true) (hg : goodWord w = true) : w ∈ pm_tb := List.mem_filter.mpr ⟨pm_at_mem h, hg⟩
def pm_fck (own : String) (q : Nat × Nat × Nat × Nat × Nat) : Bool := match pm_cl[q.2.1]? with
  | some c => decide (q.2.2.1 < c.2.2) && decide ((c.2.1 q.2.2.1).1 = c.1) && (match q.2.2.2.1 with
    | 0 => decide ((c.2.1 q.2.2.1).2.2.2 = false) && pm_at q.2.2.2.2 (.fieldLink own q.1 c.1 (c.2.1 q.2.2.1).2.1 (c.2.1 q.2.2.1).2.2.1)
    | 1 => decide ((c.2.1 q.2.2.1).2.2.2 = false) && pm_at q.2.2.2.2 (.fieldLinkNest own q.1 c.1 (c.2.1 q.2.2.1).2.1 (c.2.1 q.2.2.1).2.2.1 "LambdaShelf")
    | 2 => decide ((c.2.1 q.2.2.1).2.2.2 = true) && pm_at q.2.2.2.2 (.fieldLink own q.1 c.1 (c.2.1 q.2.2.1).2.1 (c.2.1 q.2.2.1).2.2.1)
    | 3 => decide ((c.2.1 q.2.2.1).2.2.2 = true) && pm_at q.2.2.2.2 (.fieldLinkNest own q.1 c.1 (c.2.1 q.2.2.1).2.1 (c.2.1 q.2.2.1).2.2.1 "LambdaShelf")
    | _ => false)
  | none => false
theorem pm_fls_ok : pm_fls.all (fun z => z.2.all (pm_fck z.1)) = true := by decide +kernel
def pm_mck (own : String) (q : Nat × Nat × Nat × Nat × Nat × Nat) : Bool := match q.2.1 with
  | 4 => pm_at q.2.2.2.1 (.methodLink own q.1 Lib.objectInit) && pm_at q.2.2.2.2.1 (.instanceMethod Lib.objectInit) && pm_at q.2.2.2.2.2 (.code Lib.objectInit ⟨#[0xb1]⟩ 1 none)
  | 5 => pm_at q.2.2.2.1 (.methodLink own q.1 Lib.Math.max.name) && pm_at q.2.2.2.2.1 (.static Lib.Math.max.name) && pm_at q.2.2.2.2.2 (.code Lib.Math.max.name Lib.Math.max.code 2 (some .int))
  | 6 => pm_at q.2.2.2.1 (.methodLink own q.1 Lib.Math.min.name) && pm_at q.2.2.2.2.1 (.static Lib.Math.min.name) && pm_at q.2.2.2.2.2 (.code Lib.Math.min.name Lib.Math.min.code 2 (some .int))
  | 7 => pm_at q.2.2.2.1 (.methodLink own q.1 arraycopyName) && pm_at q.2.2.2.2.1 (.static arraycopyName) && pm_at q.2.2.2.2.2 (.native arraycopyName)
  | k => match pm_tab[q.2.2.1]? with
    | some T => match k with
      | 0 => pm_at q.2.2.2.1 (.methodLink own q.1 (pm_nm T)) && pm_at q.2.2.2.2.1 (.instanceMethod (pm_nm T)) && pm_at q.2.2.2.2.2 (.selects (pm_nm T).cls (pm_nm T) (pm_nm T)) && decide ((pm_cl.getD (pm_cn T) ("", pm_F0, 0)).1 = (pm_nm T).cls)
      | 1 => pm_at q.2.2.2.1 (.methodLink own q.1 (pm_nm T)) && pm_at q.2.2.2.2.1 (.instanceMethod (pm_nm T)) && decide ((pm_nm T).name = "<init>") && decide (pm_re T = none)
      | 2 => pm_at q.2.2.2.1 (.methodLinkNest own q.1 (pm_nm T) "LambdaShelf") && pm_at q.2.2.2.2.1 (.instanceMethod (pm_nm T)) && decide ((pm_nm T).name = "<init>") && decide (pm_re T = none)
      | 3 => pm_at q.2.2.2.1 (.methodLink own q.1 (pm_nm T)) && pm_at q.2.2.2.2.1 (.static (pm_nm T))
      | _ => false
    | none => false
theorem pm_mls_ok : pm_mls.all (fun z => z.2.all (pm_mck z.1)) = true := by decide +kernel
def pm_nck (own : String) (q : Nat × Nat × Nat) : Bool := match pm_cl[q.2.1]? with
  | some c => pm_at q.2.2 (.classLink own q.1 c.1)
  | none => false
theorem pm_nls_ok : pm_nls.all (fun z => z.2.all (pm_nck z.1)) = true := by decide +kernel
theorem pm_als_ok : pm_als.all (fun z => z.2.all (fun q => pm_at q.2 (.classLink z.1 q.1 "LambdaShelf$Code"))) = true := by decide +kernel
theorem pm_lls_ok : pm_lls.all (fun z => z.2.all (fun q => pm_at q.2.2 (.constantLong z.1 q.1 q.2.1))) = true := by decide +kernel
theorem pm_ows_ok : pm_fls.map (fun z => z.1) = pm_mls.map (fun z => z.1) ∧ pm_fls.map (fun z => z.1) = pm_nls.map (fun z => z.1) ∧ pm_fls.map (fun z => z.1) = pm_als.map (fun z => z.1) ∧ pm_fls.map (fun z => z.1) = pm_lls.map (fun z => z.1) := by decide +kernel
theorem pm_ini_ok : pm_at 126 (.initialized "java/lang/Math") = true ∧ pm_at 137 (.initialized "java/lang/System") = true ∧ pm_at 165 (.arrayOver (.object "LambdaShelf$Code")) = true := by decide +kernel
theorem pm_arp_ok : pm_arp.all (fun q => pm_at q.2 (.arrayClass (newarray.typeOf q.1))) = true := by decide +kernel
def pm_tck (T : pm_M) : Bool := decide (pm_ow (pm_cn T) = (pm_nm T).cls) && (!(pm_ini T) || decide ((pm_nm T).name = "<init>")) && (decide (pm_ps T = 0) || (pm_at (pm_ps T) (.code (pm_nm T) (pm_by T) (pm_ml T) (pm_re T)) && pm_at (pm_cwp.getD (pm_cn T) ([], 0, 0)).2.2 (.initialized (pm_nm T).cls) && plainName (pm_nm T).cls && decide ((pm_nm T).cls ≠ "java/lang/invoke/MethodHandle") && decide ((pm_nm T).cls ≠ "java/lang/invoke/VarHandle") && decide ((parseMethodDescriptor (pm_nm T).desc).map (fun d => d.parameters.length) = some (pm_na T)) && decide (pm_ml T ≤ 21)))
def pm_dck (T : pm_M) : Bool := (pm_cd T).all (fun q => decide (decode (pm_by T) q.1 = .ok q.2) && (pm_isw q.2.1 || decide (q.2.2 = pm_len q.2.1)))
def pm_cck (ci : Nat) (ps : List Nat × Nat × Nat) : Bool := match pm_cl[ci]?, pm_dfs[ci]? with
  | some c, some fs => (List.range c.2.2).all (fun k => decide (parseFieldDescriptor (c.2.1 k).2.2.1 = some (pm_fty ci k)) && pm_at (ps.1.getD k 0) (u_lay c.1 c.2.1 k) && decide (defaultValue (pm_fty ci k) = vp_V fs k) && (List.range c.2.2).all (fun j => decide (j = k) || decide ((c.2.1 k).2.1 ≠ (c.2.1 j).2.1))) && pm_at ps.2.1 (.instantiable c.1 c.2.2) && pm_at ps.2.2 (.initialized c.1) && decide (fs.length = c.2.2)
  | _, _ => false
theorem pm_cck_ok : (List.range pm_cl.length).all (fun ci => pm_cck ci (pm_cwp.getD ci ([], 0, 0))) = true := by decide +kernel
end
section
/-! the methods of groups 0 on: their words, their instructions -/
theorem pm_gt0 : pm_g0.all pm_tck = true := by decide +kernel
theorem pm_gd0 : pm_g0.all pm_dck = true := by decide +kernel
theorem pm_gt1 : pm_g1.all pm_tck = true := by decide +kernel
theorem pm_gd1 : pm_g1.all pm_dck = true := by decide +kernel
theorem pm_gt2 : pm_g2.all pm_tck = true := by decide +kernel
theorem pm_gd2 : pm_g2.all pm_dck = true := by decide +kernel
theorem pm_gt3 : pm_g3.all pm_tck = true := by decide +kernel
theorem pm_gd3 : pm_g3.all pm_dck = true := by decide +kernel
end
section
/-! the methods of groups 4 on: their words, their instructions -/
theorem pm_gt4 : pm_g4.all pm_tck = true := by decide +kernel
theorem pm_gd4 : pm_g4.all pm_dck = true := by decide +kernel
theorem pm_gt5 : pm_g5.all pm_tck = true := by decide +kernel
theorem pm_gd5 : pm_g5.all pm_dck = true := by decide +kernel
theorem pm_gt6 : pm_g6.all pm_tck = true := by decide +kernel
theorem pm_gd6 : pm_g6.all pm_dck = true := by decide +kernel
theorem pm_gt7 : pm_g7.all pm_tck = true := by decide +kernel
theorem pm_gd7 : pm_g7.all pm_dck = true := by decide +kernel
end
section
/-! the methods of groups 8 on: their words, their instructions -/
theorem pm_gt8 : pm_g8.all pm_tck = true := by decide +kernel
theorem pm_gd8 : pm_g8.all pm_dck = true := by decide +kernel
theorem pm_gt9 : pm_g9.all pm_tck = true := by decide +kernel
theorem pm_gd9 : pm_g9.all pm_dck = true := by decide +kernel
theorem pm_gt10 : pm_g10.all pm_tck = true := by decide +kernel
theorem pm_gd10 : pm_g10.all pm_dck = true := by decide +kernel
theorem pm_tab_gt : pm_tab.all pm_tck = true := by
  unfold pm_tab
  simp only [List.all_append, Bool.and_true, pm_gt0, pm_gt1, pm_gt2, pm_gt3, pm_gt4, pm_gt5, pm_gt6, pm_gt7, pm_gt8, pm_gt9, pm_gt10]
theorem pm_tab_gd : pm_tab.all pm_dck = true := by
  unfold pm_tab
  simp only [List.all_append, Bool.and_true, pm_gd0, pm_gd1, pm_gd2, pm_gd3, pm_gd4, pm_gd5, pm_gd6, pm_gd7, pm_gd8, pm_gd9, pm_gd10]
end
