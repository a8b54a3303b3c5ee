/-! THE CLASS: putFour, feed, end and the small ones -/
theorem bv_b (b : BitVec 32) (n : Nat) (h : n ≤ 24) : (b >>> n) &&& 255#32 = (b.sshiftRight n) &&& 255#32 := by
  apply BitVec.eq_of_getLsbD_eq
  intro i hi
  rw [BitVec.getLsbD_and, BitVec.getLsbD_and, BitVec.getLsbD_ushiftRight, BitVec.getLsbD_sshiftRight]
  have hz : ∀ i : Fin 32, 8 ≤ i.val → (255#32).getLsbD i.val = false := by decide
  by_cases h8 : i < 8
  · rw [show decide (32 ≤ i) = false from by simp; omega, if_pos (by omega)]; rfl
  · rw [hz ⟨i, hi⟩ (by show 8 ≤ i; omega), Bool.and_false, Bool.and_false]
theorem mB_24 (X : Int32) : ((X.toUInt32 >>> ((iI 24).toUInt32 &&& Int32.toUInt32 31)).toInt32 &&& iI 255) = ((X >>> (iI 24 &&& 31)) &&& iI 255) := Int32.toBitVec_inj.mp (bv_b X.toBitVec 24 (by decide))
theorem mB_16 (X : Int32) : ((X.toUInt32 >>> ((iI 16).toUInt32 &&& Int32.toUInt32 31)).toInt32 &&& iI 255) = ((X >>> (iI 16 &&& 31)) &&& iI 255) := Int32.toBitVec_inj.mp (bv_b X.toBitVec 16 (by decide))
theorem mB_8 (X : Int32) : ((X.toUInt32 >>> ((iI 8).toUInt32 &&& Int32.toUInt32 31)).toInt32 &&& iI 255) = ((X >>> (iI 8 &&& 31)) &&& iI 255) := Int32.toBitVec_inj.mp (bv_b X.toBitVec 8 (by decide))
theorem mB_0 (X : Int32) : ((X.toUInt32 >>> ((iI 0).toUInt32 &&& Int32.toUInt32 31)).toInt32 &&& iI 255) = ((X >>> (iI 0 &&& 31)) &&& iI 255) := Int32.toBitVec_inj.mp (bv_b X.toBitVec 0 (by decide))
set_option maxHeartbeats 4000000 in
set_option maxRecDepth 100000 in
theorem C_putFour {d n : Nat} {kd pl : Nat → Nat} {s : Nat → Int} {a : Nat → Int → Int} {c : Nat → cdt} {M : List va_E} {Q : Option Value → List va_E → Nat → Nat → Prop} {x : Int} (hW : wf n kd pl) (h0 : 0 ≤ s 4) (h1 : s 4 + 4 ≤ 600) (k : ∀ s' a', s' = updS s 4 (s 4 + 4) → a' = updA a 0 (mP (a 0) (s 4) x) → Q none (ch n kd pl s' a' c M) 0 0) : pm_E none d pm_mm9 0 [(0, .ref (pl 1)), (1, .int (iI x))] [] (ch n kd pl s a c M) 0 0 Q := by
  refine pm_e_sim pm_a9_0 rfl ?_
  refine pm_e_top (y := iI 24) (by decide +kernel) ?_
  show pm_E _ _ _ 2 [(0, .ref (pl 1)), (1, .int (iI x))] [.int (iI 24)] _ _ _ _
  refine pm_e_sim pm_a9_2 rfl ?_
  show pm_E _ _ _ 3 [(0, .ref (pl 1)), (1, .int (iI x)), (2, .int (iI 24))] [] _ _ _ _
  refine pm_e_sim pm_a9_3 rfl ?_
  show pm_E _ _ _ 4 [(0, .ref (pl 1)), (1, .int (iI x)), (2, .int (iI 24))] [.int (iI 24)] _ _ _ _
  refine pm_e_iff pm_a9_4 rfl (by decide +kernel) ?_
  show pm_E _ _ _ 7 [(0, .ref (pl 1)), (1, .int (iI x)), (2, .int (iI 24))] [] _ _ _ _
  refine pm_e_sim pm_a9_7 rfl ?_
  show pm_E _ _ _ 8 [(0, .ref (pl 1)), (1, .int (iI x)), (2, .int (iI 24))] [.ref (pl 1)] _ _ _ _
  refine pm_i_get pm_a9_8 rfl (cg_1 hW) rfl ?_
  show pm_E _ _ _ 11 [(0, .ref (pl 1)), (1, .int (iI x)), (2, .int (iI 24))] [.int (iI (s 4))] _ _ _ _
  refine pm_e_sim pm_a9_11 rfl ?_
  show pm_E _ _ _ 12 [(0, .ref (pl 1)), (1, .int (iI x)), (2, .int (iI 24))] [.ref (pl 1), .int (iI (s 4))] _ _ _ _
  refine pm_i_get pm_a9_12 rfl (cg_1 hW) rfl ?_
  show pm_E _ _ _ 15 [(0, .ref (pl 1)), (1, .int (iI x)), (2, .int (iI 24))] [.ref (pl 2), .int (iI (s 4))] _ _ _ _
  refine pm_i_aln pm_a9_15 (cg_2 hW) ?_
  show pm_E _ _ _ 16 [(0, .ref (pl 1)), (1, .int (iI x)), (2, .int (iI 24))] [.int (iI 600), .int (iI (s 4))] _ _ _ _
  refine pm_c_ge (t := 45) pm_a9_16 rfl ⟨by omega, by omega⟩ ⟨by omega, by omega⟩ (fun h_1 => ?_) (fun h_1 => ?_)
  · skip
    exfalso; omega
  · skip
    show pm_E _ _ _ 19 [(0, .ref (pl 1)), (1, .int (iI x)), (2, .int (iI 24))] [] _ _ _ _
    refine pm_e_sim pm_a9_19 rfl ?_
    show pm_E _ _ _ 20 [(0, .ref (pl 1)), (1, .int (iI x)), (2, .int (iI 24))] [.ref (pl 1)] _ _ _ _
    refine pm_i_get pm_a9_20 rfl (cg_1 hW) rfl ?_
    show pm_E _ _ _ 23 [(0, .ref (pl 1)), (1, .int (iI x)), (2, .int (iI 24))] [.ref (pl 2)] _ _ _ _
    refine pm_e_sim pm_a9_23 rfl ?_
    show pm_E _ _ _ 24 [(0, .ref (pl 1)), (1, .int (iI x)), (2, .int (iI 24))] [.ref (pl 1), .ref (pl 2)] _ _ _ _
    refine pm_i_get pm_a9_24 rfl (cg_1 hW) rfl ?_
    show pm_E _ _ _ 27 [(0, .ref (pl 1)), (1, .int (iI x)), (2, .int (iI 24))] [.int (iI (s 4)), .ref (pl 2)] _ _ _ _
    refine pm_e_sim pm_a9_27 rfl ?_
    show pm_E _ _ _ 28 [(0, .ref (pl 1)), (1, .int (iI x)), (2, .int (iI 24))] [.int (iI x), .int (iI (s 4)), .ref (pl 2)] _ _ _ _
    refine pm_e_sim pm_a9_28 rfl ?_
    show pm_E _ _ _ 29 [(0, .ref (pl 1)), (1, .int (iI x)), (2, .int (iI 24))] [.int (iI 24), .int (iI x), .int (iI (s 4)), .ref (pl 2)] _ _ _ _
    refine pm_e_sim pm_a9_29 rfl ?_
    show pm_E _ _ _ 30 [(0, .ref (pl 1)), (1, .int (iI x)), (2, .int (iI 24))] [.int (((iI x).toUInt32 >>> ((iI 24).toUInt32 &&& Int32.toUInt32 31)).toInt32), .int (iI (s 4)), .ref (pl 2)] _ _ _ _
    refine pm_e_sim pm_a9_30 rfl ?_
    refine pm_e_top (y := iI 255) (by decide +kernel) ?_
    show pm_E _ _ _ 33 [(0, .ref (pl 1)), (1, .int (iI x)), (2, .int (iI 24))] [.int (iI 255), .int (((iI x).toUInt32 >>> ((iI 24).toUInt32 &&& Int32.toUInt32 31)).toInt32), .int (iI (s 4)), .ref (pl 2)] _ _ _ _
    refine pm_e_sim pm_a9_33 rfl ?_
    refine pm_e_top (y := iI (mB x 24)) ((mB_24 _).trans (iI_of _).symm) ?_
    show pm_E _ _ _ 34 [(0, .ref (pl 1)), (1, .int (iI x)), (2, .int (iI 24))] [.int (iI (mB x 24)), .int (iI (s 4)), .ref (pl 2)] _ _ _ _
    refine pm_i_ast pm_a9_34 (cg_2 hW) (by omega) (by omega) ⟨by omega, by omega⟩ (ca_2 hW _) ?_
    show pm_E _ _ _ 35 [(0, .ref (pl 1)), (1, .int (iI x)), (2, .int (iI 24))] [] _ _ _ _
    refine pm_e_sim pm_a9_35 rfl ?_
    show pm_E _ _ _ 36 [(0, .ref (pl 1)), (1, .int (iI x)), (2, .int (iI 24))] [.ref (pl 1)] _ _ _ _
    refine pm_e_sim pm_a9_36 rfl ?_
    show pm_E _ _ _ 37 [(0, .ref (pl 1)), (1, .int (iI x)), (2, .int (iI 24))] [.ref (pl 1), .ref (pl 1)] _ _ _ _
    refine pm_i_get pm_a9_37 rfl (cg_1 hW) rfl ?_
    show pm_E _ _ _ 40 [(0, .ref (pl 1)), (1, .int (iI x)), (2, .int (iI 24))] [.int (iI (s 4)), .ref (pl 1)] _ _ _ _
    refine pm_e_sim pm_a9_40 rfl ?_
    refine pm_e_top (y := iI 1) (by decide +kernel) ?_
    show pm_E _ _ _ 41 [(0, .ref (pl 1)), (1, .int (iI x)), (2, .int (iI 24))] [.int (iI 1), .int (iI (s 4)), .ref (pl 1)] _ _ _ _
    refine pm_e_sim pm_a9_41 rfl ?_
    refine pm_e_top (y := iI (s 4 + 1)) (iI_add _ _) ?_
    show pm_E _ _ _ 42 [(0, .ref (pl 1)), (1, .int (iI x)), (2, .int (iI 24))] [.int (iI (s 4 + 1)), .ref (pl 1)] _ _ _ _
    refine pm_i_put pm_a9_42 rfl (cg_1 hW) rfl (Nat.le_of_ble_eq_true rfl) (Or.inl rfl) (cw_4 hW (s 4 + 1)) ?_
    show pm_E _ _ _ 45 [(0, .ref (pl 1)), (1, .int (iI x)), (2, .int (iI 24))] [] _ _ _ _
    refine pm_e_inc (y := iI 16) pm_a9_45 rfl (by decide +kernel) (by decide +kernel) rfl ?_
    show pm_E _ _ _ 48 [(0, .ref (pl 1)), (1, .int (iI x)), (2, .int (iI 16))] [] _ _ _ _
    refine pm_e_goto pm_a9_48 rfl ?_
    show pm_E _ _ _ 3 [(0, .ref (pl 1)), (1, .int (iI x)), (2, .int (iI 16))] [] _ _ _ _
    refine pm_e_sim pm_a9_3 rfl ?_
    show pm_E _ _ _ 4 [(0, .ref (pl 1)), (1, .int (iI x)), (2, .int (iI 16))] [.int (iI 16)] _ _ _ _
    refine pm_e_iff pm_a9_4 rfl (by decide +kernel) ?_
    show pm_E _ _ _ 7 [(0, .ref (pl 1)), (1, .int (iI x)), (2, .int (iI 16))] [] _ _ _ _
    refine pm_e_sim pm_a9_7 rfl ?_
    show pm_E _ _ _ 8 [(0, .ref (pl 1)), (1, .int (iI x)), (2, .int (iI 16))] [.ref (pl 1)] _ _ _ _
    refine pm_i_get pm_a9_8 rfl (cg_1 hW) rfl ?_
    show pm_E _ _ _ 11 [(0, .ref (pl 1)), (1, .int (iI x)), (2, .int (iI 16))] [.int (iI (s 4 + 1))] _ _ _ _
    refine pm_e_sim pm_a9_11 rfl ?_
    show pm_E _ _ _ 12 [(0, .ref (pl 1)), (1, .int (iI x)), (2, .int (iI 16))] [.ref (pl 1), .int (iI (s 4 + 1))] _ _ _ _
    refine pm_i_get pm_a9_12 rfl (cg_1 hW) rfl ?_
    show pm_E _ _ _ 15 [(0, .ref (pl 1)), (1, .int (iI x)), (2, .int (iI 16))] [.ref (pl 2), .int (iI (s 4 + 1))] _ _ _ _
    refine pm_i_aln pm_a9_15 (cg_2 hW) ?_
    show pm_E _ _ _ 16 [(0, .ref (pl 1)), (1, .int (iI x)), (2, .int (iI 16))] [.int (iI 600), .int (iI (s 4 + 1))] _ _ _ _
    refine pm_c_ge (t := 45) pm_a9_16 rfl ⟨by omega, by omega⟩ ⟨by omega, by omega⟩ (fun h_2 => ?_) (fun h_2 => ?_)
    · skip
      exfalso; omega
    · skip
      show pm_E _ _ _ 19 [(0, .ref (pl 1)), (1, .int (iI x)), (2, .int (iI 16))] [] _ _ _ _
      refine pm_e_sim pm_a9_19 rfl ?_
      show pm_E _ _ _ 20 [(0, .ref (pl 1)), (1, .int (iI x)), (2, .int (iI 16))] [.ref (pl 1)] _ _ _ _
      refine pm_i_get pm_a9_20 rfl (cg_1 hW) rfl ?_
      show pm_E _ _ _ 23 [(0, .ref (pl 1)), (1, .int (iI x)), (2, .int (iI 16))] [.ref (pl 2)] _ _ _ _
      refine pm_e_sim pm_a9_23 rfl ?_
      show pm_E _ _ _ 24 [(0, .ref (pl 1)), (1, .int (iI x)), (2, .int (iI 16))] [.ref (pl 1), .ref (pl 2)] _ _ _ _
      refine pm_i_get pm_a9_24 rfl (cg_1 hW) rfl ?_
      show pm_E _ _ _ 27 [(0, .ref (pl 1)), (1, .int (iI x)), (2, .int (iI 16))] [.int (iI (s 4 + 1)), .ref (pl 2)] _ _ _ _
      refine pm_e_sim pm_a9_27 rfl ?_
      show pm_E _ _ _ 28 [(0, .ref (pl 1)), (1, .int (iI x)), (2, .int (iI 16))] [.int (iI x), .int (iI (s 4 + 1)), .ref (pl 2)] _ _ _ _
      refine pm_e_sim pm_a9_28 rfl ?_
      show pm_E _ _ _ 29 [(0, .ref (pl 1)), (1, .int (iI x)), (2, .int (iI 16))] [.int (iI 16), .int (iI x), .int (iI (s 4 + 1)), .ref (pl 2)] _ _ _ _
      refine pm_e_sim pm_a9_29 rfl ?_
      show pm_E _ _ _ 30 [(0, .ref (pl 1)), (1, .int (iI x)), (2, .int (iI 16))] [.int (((iI x).toUInt32 >>> ((iI 16).toUInt32 &&& Int32.toUInt32 31)).toInt32), .int (iI (s 4 + 1)), .ref (pl 2)] _ _ _ _
      refine pm_e_sim pm_a9_30 rfl ?_
      refine pm_e_top (y := iI 255) (by decide +kernel) ?_
      show pm_E _ _ _ 33 [(0, .ref (pl 1)), (1, .int (iI x)), (2, .int (iI 16))] [.int (iI 255), .int (((iI x).toUInt32 >>> ((iI 16).toUInt32 &&& Int32.toUInt32 31)).toInt32), .int (iI (s 4 + 1)), .ref (pl 2)] _ _ _ _
      refine pm_e_sim pm_a9_33 rfl ?_
      refine pm_e_top (y := iI (mB x 16)) ((mB_16 _).trans (iI_of _).symm) ?_
      show pm_E _ _ _ 34 [(0, .ref (pl 1)), (1, .int (iI x)), (2, .int (iI 16))] [.int (iI (mB x 16)), .int (iI (s 4 + 1)), .ref (pl 2)] _ _ _ _
      refine pm_i_ast pm_a9_34 (cg_2 hW) (by omega) (by omega) ⟨by omega, by omega⟩ (ca_2 hW _) ?_
      show pm_E _ _ _ 35 [(0, .ref (pl 1)), (1, .int (iI x)), (2, .int (iI 16))] [] _ _ _ _
      refine pm_e_sim pm_a9_35 rfl ?_
      show pm_E _ _ _ 36 [(0, .ref (pl 1)), (1, .int (iI x)), (2, .int (iI 16))] [.ref (pl 1)] _ _ _ _
      refine pm_e_sim pm_a9_36 rfl ?_
      show pm_E _ _ _ 37 [(0, .ref (pl 1)), (1, .int (iI x)), (2, .int (iI 16))] [.ref (pl 1), .ref (pl 1)] _ _ _ _
      refine pm_i_get pm_a9_37 rfl (cg_1 hW) rfl ?_
      show pm_E _ _ _ 40 [(0, .ref (pl 1)), (1, .int (iI x)), (2, .int (iI 16))] [.int (iI (s 4 + 1)), .ref (pl 1)] _ _ _ _
      refine pm_e_sim pm_a9_40 rfl ?_
      refine pm_e_top (y := iI 1) (by decide +kernel) ?_
      show pm_E _ _ _ 41 [(0, .ref (pl 1)), (1, .int (iI x)), (2, .int (iI 16))] [.int (iI 1), .int (iI (s 4 + 1)), .ref (pl 1)] _ _ _ _
      refine pm_e_sim pm_a9_41 rfl ?_
      refine pm_e_top (y := iI (s 4 + 1 + 1)) (iI_add _ _) ?_
      show pm_E _ _ _ 42 [(0, .ref (pl 1)), (1, .int (iI x)), (2, .int (iI 16))] [.int (iI (s 4 + 1 + 1)), .ref (pl 1)] _ _ _ _
      refine pm_i_put pm_a9_42 rfl (cg_1 hW) rfl (Nat.le_of_ble_eq_true rfl) (Or.inl rfl) (cw_4 hW (s 4 + 1 + 1)) ?_
      show pm_E _ _ _ 45 [(0, .ref (pl 1)), (1, .int (iI x)), (2, .int (iI 16))] [] _ _ _ _
      refine pm_e_inc (y := iI 8) pm_a9_45 rfl (by decide +kernel) (by decide +kernel) rfl ?_
      show pm_E _ _ _ 48 [(0, .ref (pl 1)), (1, .int (iI x)), (2, .int (iI 8))] [] _ _ _ _
      refine pm_e_goto pm_a9_48 rfl ?_
      show pm_E _ _ _ 3 [(0, .ref (pl 1)), (1, .int (iI x)), (2, .int (iI 8))] [] _ _ _ _
      refine pm_e_sim pm_a9_3 rfl ?_
      show pm_E _ _ _ 4 [(0, .ref (pl 1)), (1, .int (iI x)), (2, .int (iI 8))] [.int (iI 8)] _ _ _ _
      refine pm_e_iff pm_a9_4 rfl (by decide +kernel) ?_
      show pm_E _ _ _ 7 [(0, .ref (pl 1)), (1, .int (iI x)), (2, .int (iI 8))] [] _ _ _ _
      refine pm_e_sim pm_a9_7 rfl ?_
      show pm_E _ _ _ 8 [(0, .ref (pl 1)), (1, .int (iI x)), (2, .int (iI 8))] [.ref (pl 1)] _ _ _ _
      refine pm_i_get pm_a9_8 rfl (cg_1 hW) rfl ?_
      show pm_E _ _ _ 11 [(0, .ref (pl 1)), (1, .int (iI x)), (2, .int (iI 8))] [.int (iI (s 4 + 1 + 1))] _ _ _ _
      refine pm_e_sim pm_a9_11 rfl ?_
      show pm_E _ _ _ 12 [(0, .ref (pl 1)), (1, .int (iI x)), (2, .int (iI 8))] [.ref (pl 1), .int (iI (s 4 + 1 + 1))] _ _ _ _
      refine pm_i_get pm_a9_12 rfl (cg_1 hW) rfl ?_
      show pm_E _ _ _ 15 [(0, .ref (pl 1)), (1, .int (iI x)), (2, .int (iI 8))] [.ref (pl 2), .int (iI (s 4 + 1 + 1))] _ _ _ _
      refine pm_i_aln pm_a9_15 (cg_2 hW) ?_
      show pm_E _ _ _ 16 [(0, .ref (pl 1)), (1, .int (iI x)), (2, .int (iI 8))] [.int (iI 600), .int (iI (s 4 + 1 + 1))] _ _ _ _
      refine pm_c_ge (t := 45) pm_a9_16 rfl ⟨by omega, by omega⟩ ⟨by omega, by omega⟩ (fun h_3 => ?_) (fun h_3 => ?_)
      · skip
        exfalso; omega
      · skip
        show pm_E _ _ _ 19 [(0, .ref (pl 1)), (1, .int (iI x)), (2, .int (iI 8))] [] _ _ _ _
        refine pm_e_sim pm_a9_19 rfl ?_
        show pm_E _ _ _ 20 [(0, .ref (pl 1)), (1, .int (iI x)), (2, .int (iI 8))] [.ref (pl 1)] _ _ _ _
        refine pm_i_get pm_a9_20 rfl (cg_1 hW) rfl ?_
        show pm_E _ _ _ 23 [(0, .ref (pl 1)), (1, .int (iI x)), (2, .int (iI 8))] [.ref (pl 2)] _ _ _ _
        refine pm_e_sim pm_a9_23 rfl ?_
        show pm_E _ _ _ 24 [(0, .ref (pl 1)), (1, .int (iI x)), (2, .int (iI 8))] [.ref (pl 1), .ref (pl 2)] _ _ _ _
        refine pm_i_get pm_a9_24 rfl (cg_1 hW) rfl ?_
        show pm_E _ _ _ 27 [(0, .ref (pl 1)), (1, .int (iI x)), (2, .int (iI 8))] [.int (iI (s 4 + 1 + 1)), .ref (pl 2)] _ _ _ _
        refine pm_e_sim pm_a9_27 rfl ?_
        show pm_E _ _ _ 28 [(0, .ref (pl 1)), (1, .int (iI x)), (2, .int (iI 8))] [.int (iI x), .int (iI (s 4 + 1 + 1)), .ref (pl 2)] _ _ _ _
        refine pm_e_sim pm_a9_28 rfl ?_
        show pm_E _ _ _ 29 [(0, .ref (pl 1)), (1, .int (iI x)), (2, .int (iI 8))] [.int (iI 8), .int (iI x), .int (iI (s 4 + 1 + 1)), .ref (pl 2)] _ _ _ _
        refine pm_e_sim pm_a9_29 rfl ?_
        show pm_E _ _ _ 30 [(0, .ref (pl 1)), (1, .int (iI x)), (2, .int (iI 8))] [.int (((iI x).toUInt32 >>> ((iI 8).toUInt32 &&& Int32.toUInt32 31)).toInt32), .int (iI (s 4 + 1 + 1)), .ref (pl 2)] _ _ _ _
        refine pm_e_sim pm_a9_30 rfl ?_
        refine pm_e_top (y := iI 255) (by decide +kernel) ?_
        show pm_E _ _ _ 33 [(0, .ref (pl 1)), (1, .int (iI x)), (2, .int (iI 8))] [.int (iI 255), .int (((iI x).toUInt32 >>> ((iI 8).toUInt32 &&& Int32.toUInt32 31)).toInt32), .int (iI (s 4 + 1 + 1)), .ref (pl 2)] _ _ _ _
        refine pm_e_sim pm_a9_33 rfl ?_
        refine pm_e_top (y := iI (mB x 8)) ((mB_8 _).trans (iI_of _).symm) ?_
        show pm_E _ _ _ 34 [(0, .ref (pl 1)), (1, .int (iI x)), (2, .int (iI 8))] [.int (iI (mB x 8)), .int (iI (s 4 + 1 + 1)), .ref (pl 2)] _ _ _ _
        refine pm_i_ast pm_a9_34 (cg_2 hW) (by omega) (by omega) ⟨by omega, by omega⟩ (ca_2 hW _) ?_
        show pm_E _ _ _ 35 [(0, .ref (pl 1)), (1, .int (iI x)), (2, .int (iI 8))] [] _ _ _ _
        refine pm_e_sim pm_a9_35 rfl ?_
        show pm_E _ _ _ 36 [(0, .ref (pl 1)), (1, .int (iI x)), (2, .int (iI 8))] [.ref (pl 1)] _ _ _ _
        refine pm_e_sim pm_a9_36 rfl ?_
        show pm_E _ _ _ 37 [(0, .ref (pl 1)), (1, .int (iI x)), (2, .int (iI 8))] [.ref (pl 1), .ref (pl 1)] _ _ _ _
        refine pm_i_get pm_a9_37 rfl (cg_1 hW) rfl ?_
        show pm_E _ _ _ 40 [(0, .ref (pl 1)), (1, .int (iI x)), (2, .int (iI 8))] [.int (iI (s 4 + 1 + 1)), .ref (pl 1)] _ _ _ _
        refine pm_e_sim pm_a9_40 rfl ?_
        refine pm_e_top (y := iI 1) (by decide +kernel) ?_
        show pm_E _ _ _ 41 [(0, .ref (pl 1)), (1, .int (iI x)), (2, .int (iI 8))] [.int (iI 1), .int (iI (s 4 + 1 + 1)), .ref (pl 1)] _ _ _ _
        refine pm_e_sim pm_a9_41 rfl ?_
        refine pm_e_top (y := iI (s 4 + 1 + 1 + 1)) (iI_add _ _) ?_
        show pm_E _ _ _ 42 [(0, .ref (pl 1)), (1, .int (iI x)), (2, .int (iI 8))] [.int (iI (s 4 + 1 + 1 + 1)), .ref (pl 1)] _ _ _ _
        refine pm_i_put pm_a9_42 rfl (cg_1 hW) rfl (Nat.le_of_ble_eq_true rfl) (Or.inl rfl) (cw_4 hW (s 4 + 1 + 1 + 1)) ?_
        show pm_E _ _ _ 45 [(0, .ref (pl 1)), (1, .int (iI x)), (2, .int (iI 8))] [] _ _ _ _
        refine pm_e_inc (y := iI 0) pm_a9_45 rfl (by decide +kernel) (by decide +kernel) rfl ?_
        show pm_E _ _ _ 48 [(0, .ref (pl 1)), (1, .int (iI x)), (2, .int (iI 0))] [] _ _ _ _
        refine pm_e_goto pm_a9_48 rfl ?_
        show pm_E _ _ _ 3 [(0, .ref (pl 1)), (1, .int (iI x)), (2, .int (iI 0))] [] _ _ _ _
        refine pm_e_sim pm_a9_3 rfl ?_
        show pm_E _ _ _ 4 [(0, .ref (pl 1)), (1, .int (iI x)), (2, .int (iI 0))] [.int (iI 0)] _ _ _ _
        refine pm_e_iff pm_a9_4 rfl (by decide +kernel) ?_
        show pm_E _ _ _ 7 [(0, .ref (pl 1)), (1, .int (iI x)), (2, .int (iI 0))] [] _ _ _ _
        refine pm_e_sim pm_a9_7 rfl ?_
        show pm_E _ _ _ 8 [(0, .ref (pl 1)), (1, .int (iI x)), (2, .int (iI 0))] [.ref (pl 1)] _ _ _ _
        refine pm_i_get pm_a9_8 rfl (cg_1 hW) rfl ?_
        show pm_E _ _ _ 11 [(0, .ref (pl 1)), (1, .int (iI x)), (2, .int (iI 0))] [.int (iI (s 4 + 1 + 1 + 1))] _ _ _ _
        refine pm_e_sim pm_a9_11 rfl ?_
        show pm_E _ _ _ 12 [(0, .ref (pl 1)), (1, .int (iI x)), (2, .int (iI 0))] [.ref (pl 1), .int (iI (s 4 + 1 + 1 + 1))] _ _ _ _
        refine pm_i_get pm_a9_12 rfl (cg_1 hW) rfl ?_
        show pm_E _ _ _ 15 [(0, .ref (pl 1)), (1, .int (iI x)), (2, .int (iI 0))] [.ref (pl 2), .int (iI (s 4 + 1 + 1 + 1))] _ _ _ _
        refine pm_i_aln pm_a9_15 (cg_2 hW) ?_
        show pm_E _ _ _ 16 [(0, .ref (pl 1)), (1, .int (iI x)), (2, .int (iI 0))] [.int (iI 600), .int (iI (s 4 + 1 + 1 + 1))] _ _ _ _
        refine pm_c_ge (t := 45) pm_a9_16 rfl ⟨by omega, by omega⟩ ⟨by omega, by omega⟩ (fun h_4 => ?_) (fun h_4 => ?_)
        · skip
          exfalso; omega
        · skip
          show pm_E _ _ _ 19 [(0, .ref (pl 1)), (1, .int (iI x)), (2, .int (iI 0))] [] _ _ _ _
          refine pm_e_sim pm_a9_19 rfl ?_
          show pm_E _ _ _ 20 [(0, .ref (pl 1)), (1, .int (iI x)), (2, .int (iI 0))] [.ref (pl 1)] _ _ _ _
          refine pm_i_get pm_a9_20 rfl (cg_1 hW) rfl ?_
          show pm_E _ _ _ 23 [(0, .ref (pl 1)), (1, .int (iI x)), (2, .int (iI 0))] [.ref (pl 2)] _ _ _ _
          refine pm_e_sim pm_a9_23 rfl ?_
          show pm_E _ _ _ 24 [(0, .ref (pl 1)), (1, .int (iI x)), (2, .int (iI 0))] [.ref (pl 1), .ref (pl 2)] _ _ _ _
          refine pm_i_get pm_a9_24 rfl (cg_1 hW) rfl ?_
          show pm_E _ _ _ 27 [(0, .ref (pl 1)), (1, .int (iI x)), (2, .int (iI 0))] [.int (iI (s 4 + 1 + 1 + 1)), .ref (pl 2)] _ _ _ _
          refine pm_e_sim pm_a9_27 rfl ?_
          show pm_E _ _ _ 28 [(0, .ref (pl 1)), (1, .int (iI x)), (2, .int (iI 0))] [.int (iI x), .int (iI (s 4 + 1 + 1 + 1)), .ref (pl 2)] _ _ _ _
          refine pm_e_sim pm_a9_28 rfl ?_
          show pm_E _ _ _ 29 [(0, .ref (pl 1)), (1, .int (iI x)), (2, .int (iI 0))] [.int (iI 0), .int (iI x), .int (iI (s 4 + 1 + 1 + 1)), .ref (pl 2)] _ _ _ _
          refine pm_e_sim pm_a9_29 rfl ?_
          show pm_E _ _ _ 30 [(0, .ref (pl 1)), (1, .int (iI x)), (2, .int (iI 0))] [.int (((iI x).toUInt32 >>> ((iI 0).toUInt32 &&& Int32.toUInt32 31)).toInt32), .int (iI (s 4 + 1 + 1 + 1)), .ref (pl 2)] _ _ _ _
          refine pm_e_sim pm_a9_30 rfl ?_
          refine pm_e_top (y := iI 255) (by decide +kernel) ?_
          show pm_E _ _ _ 33 [(0, .ref (pl 1)), (1, .int (iI x)), (2, .int (iI 0))] [.int (iI 255), .int (((iI x).toUInt32 >>> ((iI 0).toUInt32 &&& Int32.toUInt32 31)).toInt32), .int (iI (s 4 + 1 + 1 + 1)), .ref (pl 2)] _ _ _ _
          refine pm_e_sim pm_a9_33 rfl ?_
          refine pm_e_top (y := iI (mB x 0)) ((mB_0 _).trans (iI_of _).symm) ?_
          show pm_E _ _ _ 34 [(0, .ref (pl 1)), (1, .int (iI x)), (2, .int (iI 0))] [.int (iI (mB x 0)), .int (iI (s 4 + 1 + 1 + 1)), .ref (pl 2)] _ _ _ _
          refine pm_i_ast pm_a9_34 (cg_2 hW) (by omega) (by omega) ⟨by omega, by omega⟩ (ca_2 hW _) ?_
          show pm_E _ _ _ 35 [(0, .ref (pl 1)), (1, .int (iI x)), (2, .int (iI 0))] [] _ _ _ _
          refine pm_e_sim pm_a9_35 rfl ?_
          show pm_E _ _ _ 36 [(0, .ref (pl 1)), (1, .int (iI x)), (2, .int (iI 0))] [.ref (pl 1)] _ _ _ _
          refine pm_e_sim pm_a9_36 rfl ?_
          show pm_E _ _ _ 37 [(0, .ref (pl 1)), (1, .int (iI x)), (2, .int (iI 0))] [.ref (pl 1), .ref (pl 1)] _ _ _ _
          refine pm_i_get pm_a9_37 rfl (cg_1 hW) rfl ?_
          show pm_E _ _ _ 40 [(0, .ref (pl 1)), (1, .int (iI x)), (2, .int (iI 0))] [.int (iI (s 4 + 1 + 1 + 1)), .ref (pl 1)] _ _ _ _
          refine pm_e_sim pm_a9_40 rfl ?_
          refine pm_e_top (y := iI 1) (by decide +kernel) ?_
          show pm_E _ _ _ 41 [(0, .ref (pl 1)), (1, .int (iI x)), (2, .int (iI 0))] [.int (iI 1), .int (iI (s 4 + 1 + 1 + 1)), .ref (pl 1)] _ _ _ _
          refine pm_e_sim pm_a9_41 rfl ?_
          refine pm_e_top (y := iI (s 4 + 1 + 1 + 1 + 1)) (iI_add _ _) ?_
          show pm_E _ _ _ 42 [(0, .ref (pl 1)), (1, .int (iI x)), (2, .int (iI 0))] [.int (iI (s 4 + 1 + 1 + 1 + 1)), .ref (pl 1)] _ _ _ _
          refine pm_i_put pm_a9_42 rfl (cg_1 hW) rfl (Nat.le_of_ble_eq_true rfl) (Or.inl rfl) (cw_4 hW (s 4 + 1 + 1 + 1 + 1)) ?_
          show pm_E _ _ _ 45 [(0, .ref (pl 1)), (1, .int (iI x)), (2, .int (iI 0))] [] _ _ _ _
          refine pm_e_inc (y := iI (-8)) pm_a9_45 rfl (by decide +kernel) (by decide +kernel) rfl ?_
          show pm_E _ _ _ 48 [(0, .ref (pl 1)), (1, .int (iI x)), (2, .int (iI (-8)))] [] _ _ _ _
          refine pm_e_goto pm_a9_48 rfl ?_
          show pm_E _ _ _ 3 [(0, .ref (pl 1)), (1, .int (iI x)), (2, .int (iI (-8)))] [] _ _ _ _
          refine pm_e_sim pm_a9_3 rfl ?_
          show pm_E _ _ _ 4 [(0, .ref (pl 1)), (1, .int (iI x)), (2, .int (iI (-8)))] [.int (iI (-8))] _ _ _ _
          refine pm_e_ift pm_a9_4 rfl (by decide +kernel) ?_
          show pm_E _ _ _ 51 [(0, .ref (pl 1)), (1, .int (iI x)), (2, .int (iI (-8)))] [] _ _ _ _
          refine pm_e_ret pm_a9_51 rfl rfl rfl rfl rfl rfl rfl rfl ?_
          refine k _ _ ?_ ?_
          · funext j; by_cases hj : j = 4 <;> simp [updS, hj] <;> omega
          · funext j; by_cases hj : j = 0
            · subst hj; rfl
            · simp [updA, hj]
set_option maxHeartbeats 4000000 in
set_option maxRecDepth 100000 in
theorem C_feed {d n : Nat} {kd pl : Nat → Nat} {s : Nat → Int} {a : Nat → Int → Int} {c : Nat → cdt} {M : List va_E} {Q : Option Value → List va_E → Nat → Nat → Prop} {x1 x2 x3 x4 x5 : Int} (hW : wf n kd pl) (h0 : 0 ≤ s 4) (h1 : s 4 ≤ 600) (k1 : 600 < s 4 + 20 → Q (some (.int (iI (-3)))) (ch n kd pl s a c M) 0 0) (k2 : s 4 + 20 ≤ 600 → ∀ r s' a', r = s 4 + 20 → s' = updS s 4 (s 4 + 20) → a' = updA a 0 (mP5 (a 0) (s 4) x1 x2 x3 x4 x5) → Q (some (.int (iI r))) (ch n kd pl s' a' c M) 0 0) : pm_E none (d + 1) pm_mm8 0 [(0, .ref (pl 0)), (1, .int (iI x1)), (2, .int (iI x2)), (3, .int (iI x3)), (4, .int (iI x4)), (5, .int (iI x5))] [] (ch n kd pl s a c M) 0 0 Q := by
  refine pm_e_sim pm_a8_0 rfl ?_
  show pm_E _ _ _ 1 [(0, .ref (pl 0)), (1, .int (iI x1)), (2, .int (iI x2)), (3, .int (iI x3)), (4, .int (iI x4)), (5, .int (iI x5))] [.ref (pl 0)] _ _ _ _
  refine pm_i_get pm_a8_1 rfl (cg_0 hW) rfl ?_
  show pm_E _ _ _ 4 [(0, .ref (pl 0)), (1, .int (iI x1)), (2, .int (iI x2)), (3, .int (iI x3)), (4, .int (iI x4)), (5, .int (iI x5))] [.ref (pl 1)] _ _ _ _
  refine pm_i_get pm_a8_4 rfl (cg_1 hW) rfl ?_
  show pm_E _ _ _ 7 [(0, .ref (pl 0)), (1, .int (iI x1)), (2, .int (iI x2)), (3, .int (iI x3)), (4, .int (iI x4)), (5, .int (iI x5))] [.int (iI (s 4))] _ _ _ _
  refine pm_e_sim pm_a8_7 rfl ?_
  refine pm_e_top (y := iI 20) (by decide +kernel) ?_
  show pm_E _ _ _ 9 [(0, .ref (pl 0)), (1, .int (iI x1)), (2, .int (iI x2)), (3, .int (iI x3)), (4, .int (iI x4)), (5, .int (iI x5))] [.int (iI 20), .int (iI (s 4))] _ _ _ _
  refine pm_e_sim pm_a8_9 rfl ?_
  refine pm_e_top (y := iI (s 4 + 20)) (iI_add _ _) ?_
  show pm_E _ _ _ 10 [(0, .ref (pl 0)), (1, .int (iI x1)), (2, .int (iI x2)), (3, .int (iI x3)), (4, .int (iI x4)), (5, .int (iI x5))] [.int (iI (s 4 + 20))] _ _ _ _
  refine pm_e_sim pm_a8_10 rfl ?_
  refine pm_e_top (y := iI 600) (by decide +kernel) ?_
  show pm_E _ _ _ 13 [(0, .ref (pl 0)), (1, .int (iI x1)), (2, .int (iI x2)), (3, .int (iI x3)), (4, .int (iI x4)), (5, .int (iI x5))] [.int (iI 600), .int (iI (s 4 + 20))] _ _ _ _
  refine pm_c_le (t := 19) pm_a8_13 rfl ⟨by omega, by omega⟩ ⟨by omega, by omega⟩ (fun h_1 => ?_) (fun h_1 => ?_)
  · skip
    show pm_E _ _ _ 19 [(0, .ref (pl 0)), (1, .int (iI x1)), (2, .int (iI x2)), (3, .int (iI x3)), (4, .int (iI x4)), (5, .int (iI x5))] [] _ _ _ _
    refine pm_e_sim pm_a8_19 rfl ?_
    show pm_E _ _ _ 20 [(0, .ref (pl 0)), (1, .int (iI x1)), (2, .int (iI x2)), (3, .int (iI x3)), (4, .int (iI x4)), (5, .int (iI x5))] [.ref (pl 0)] _ _ _ _
    refine pm_i_get pm_a8_20 rfl (cg_0 hW) rfl ?_
    show pm_E _ _ _ 23 [(0, .ref (pl 0)), (1, .int (iI x1)), (2, .int (iI x2)), (3, .int (iI x3)), (4, .int (iI x4)), (5, .int (iI x5))] [.ref (pl 1)] _ _ _ _
    refine pm_e_sim pm_a8_23 rfl ?_
    show pm_E _ _ _ 24 [(0, .ref (pl 0)), (1, .int (iI x1)), (2, .int (iI x2)), (3, .int (iI x3)), (4, .int (iI x4)), (5, .int (iI x5))] [.int (iI x1), .ref (pl 1)] _ _ _ _
    refine pm_i_callv (k := (pl 1)) (T2 := pm_mm9) pm_a8_24 rfl rfl rfl (cg_1 hW) ⟨Nat.le_of_ble_eq_true rfl, Nat.le_of_ble_eq_true rfl, rfl, by decide +kernel⟩ ?_
    show pm_E none _ _ 0 [(0, .ref (pl 1)), (1, .int (iI x1))] [] _ _ _ _
    refine C_putFour hW (by show 0 ≤ s 4; omega) (by show s 4 + 4 ≤ 600; omega) (fun s1 a1 f_1 g_1 => ?_)
    subst f_1; subst g_1
    show pm_E _ _ _ 27 [(0, .ref (pl 0)), (1, .int (iI x1)), (2, .int (iI x2)), (3, .int (iI x3)), (4, .int (iI x4)), (5, .int (iI x5))] [] _ _ _ _
    refine pm_e_sim pm_a8_27 rfl ?_
    show pm_E _ _ _ 28 [(0, .ref (pl 0)), (1, .int (iI x1)), (2, .int (iI x2)), (3, .int (iI x3)), (4, .int (iI x4)), (5, .int (iI x5))] [.ref (pl 0)] _ _ _ _
    refine pm_i_get pm_a8_28 rfl (cg_0 hW) rfl ?_
    show pm_E _ _ _ 31 [(0, .ref (pl 0)), (1, .int (iI x1)), (2, .int (iI x2)), (3, .int (iI x3)), (4, .int (iI x4)), (5, .int (iI x5))] [.ref (pl 1)] _ _ _ _
    refine pm_e_sim pm_a8_31 rfl ?_
    show pm_E _ _ _ 32 [(0, .ref (pl 0)), (1, .int (iI x1)), (2, .int (iI x2)), (3, .int (iI x3)), (4, .int (iI x4)), (5, .int (iI x5))] [.int (iI x2), .ref (pl 1)] _ _ _ _
    refine pm_i_callv (k := (pl 1)) (T2 := pm_mm9) pm_a8_32 rfl rfl rfl (cg_1 hW) ⟨Nat.le_of_ble_eq_true rfl, Nat.le_of_ble_eq_true rfl, rfl, by decide +kernel⟩ ?_
    show pm_E none _ _ 0 [(0, .ref (pl 1)), (1, .int (iI x2))] [] _ _ _ _
    refine C_putFour hW (by show 0 ≤ s 4 + 4; omega) (by show s 4 + 4 + 4 ≤ 600; omega) (fun s2 a2 f_2 g_2 => ?_)
    subst f_2; subst g_2
    show pm_E _ _ _ 35 [(0, .ref (pl 0)), (1, .int (iI x1)), (2, .int (iI x2)), (3, .int (iI x3)), (4, .int (iI x4)), (5, .int (iI x5))] [] _ _ _ _
    refine pm_e_sim pm_a8_35 rfl ?_
    show pm_E _ _ _ 36 [(0, .ref (pl 0)), (1, .int (iI x1)), (2, .int (iI x2)), (3, .int (iI x3)), (4, .int (iI x4)), (5, .int (iI x5))] [.ref (pl 0)] _ _ _ _
    refine pm_i_get pm_a8_36 rfl (cg_0 hW) rfl ?_
    show pm_E _ _ _ 39 [(0, .ref (pl 0)), (1, .int (iI x1)), (2, .int (iI x2)), (3, .int (iI x3)), (4, .int (iI x4)), (5, .int (iI x5))] [.ref (pl 1)] _ _ _ _
    refine pm_e_sim pm_a8_39 rfl ?_
    show pm_E _ _ _ 40 [(0, .ref (pl 0)), (1, .int (iI x1)), (2, .int (iI x2)), (3, .int (iI x3)), (4, .int (iI x4)), (5, .int (iI x5))] [.int (iI x3), .ref (pl 1)] _ _ _ _
    refine pm_i_callv (k := (pl 1)) (T2 := pm_mm9) pm_a8_40 rfl rfl rfl (cg_1 hW) ⟨Nat.le_of_ble_eq_true rfl, Nat.le_of_ble_eq_true rfl, rfl, by decide +kernel⟩ ?_
    show pm_E none _ _ 0 [(0, .ref (pl 1)), (1, .int (iI x3))] [] _ _ _ _
    refine C_putFour hW (by show 0 ≤ s 4 + 4 + 4; omega) (by show s 4 + 4 + 4 + 4 ≤ 600; omega) (fun s3 a3 f_3 g_3 => ?_)
    subst f_3; subst g_3
    show pm_E _ _ _ 43 [(0, .ref (pl 0)), (1, .int (iI x1)), (2, .int (iI x2)), (3, .int (iI x3)), (4, .int (iI x4)), (5, .int (iI x5))] [] _ _ _ _
    refine pm_e_sim pm_a8_43 rfl ?_
    show pm_E _ _ _ 44 [(0, .ref (pl 0)), (1, .int (iI x1)), (2, .int (iI x2)), (3, .int (iI x3)), (4, .int (iI x4)), (5, .int (iI x5))] [.ref (pl 0)] _ _ _ _
    refine pm_i_get pm_a8_44 rfl (cg_0 hW) rfl ?_
    show pm_E _ _ _ 47 [(0, .ref (pl 0)), (1, .int (iI x1)), (2, .int (iI x2)), (3, .int (iI x3)), (4, .int (iI x4)), (5, .int (iI x5))] [.ref (pl 1)] _ _ _ _
    refine pm_e_sim pm_a8_47 rfl ?_
    show pm_E _ _ _ 49 [(0, .ref (pl 0)), (1, .int (iI x1)), (2, .int (iI x2)), (3, .int (iI x3)), (4, .int (iI x4)), (5, .int (iI x5))] [.int (iI x4), .ref (pl 1)] _ _ _ _
    refine pm_i_callv (k := (pl 1)) (T2 := pm_mm9) pm_a8_49 rfl rfl rfl (cg_1 hW) ⟨Nat.le_of_ble_eq_true rfl, Nat.le_of_ble_eq_true rfl, rfl, by decide +kernel⟩ ?_
    show pm_E none _ _ 0 [(0, .ref (pl 1)), (1, .int (iI x4))] [] _ _ _ _
    refine C_putFour hW (by show 0 ≤ s 4 + 4 + 4 + 4; omega) (by show s 4 + 4 + 4 + 4 + 4 ≤ 600; omega) (fun s4 a4 f_4 g_4 => ?_)
    subst f_4; subst g_4
    show pm_E _ _ _ 52 [(0, .ref (pl 0)), (1, .int (iI x1)), (2, .int (iI x2)), (3, .int (iI x3)), (4, .int (iI x4)), (5, .int (iI x5))] [] _ _ _ _
    refine pm_e_sim pm_a8_52 rfl ?_
    show pm_E _ _ _ 53 [(0, .ref (pl 0)), (1, .int (iI x1)), (2, .int (iI x2)), (3, .int (iI x3)), (4, .int (iI x4)), (5, .int (iI x5))] [.ref (pl 0)] _ _ _ _
    refine pm_i_get pm_a8_53 rfl (cg_0 hW) rfl ?_
    show pm_E _ _ _ 56 [(0, .ref (pl 0)), (1, .int (iI x1)), (2, .int (iI x2)), (3, .int (iI x3)), (4, .int (iI x4)), (5, .int (iI x5))] [.ref (pl 1)] _ _ _ _
    refine pm_e_sim pm_a8_56 rfl ?_
    show pm_E _ _ _ 58 [(0, .ref (pl 0)), (1, .int (iI x1)), (2, .int (iI x2)), (3, .int (iI x3)), (4, .int (iI x4)), (5, .int (iI x5))] [.int (iI x5), .ref (pl 1)] _ _ _ _
    refine pm_i_callv (k := (pl 1)) (T2 := pm_mm9) pm_a8_58 rfl rfl rfl (cg_1 hW) ⟨Nat.le_of_ble_eq_true rfl, Nat.le_of_ble_eq_true rfl, rfl, by decide +kernel⟩ ?_
    show pm_E none _ _ 0 [(0, .ref (pl 1)), (1, .int (iI x5))] [] _ _ _ _
    refine C_putFour hW (by show 0 ≤ s 4 + 4 + 4 + 4 + 4; omega) (by show s 4 + 4 + 4 + 4 + 4 + 4 ≤ 600; omega) (fun s5 a5 f_5 g_5 => ?_)
    subst f_5; subst g_5
    show pm_E _ _ _ 61 [(0, .ref (pl 0)), (1, .int (iI x1)), (2, .int (iI x2)), (3, .int (iI x3)), (4, .int (iI x4)), (5, .int (iI x5))] [] _ _ _ _
    refine pm_e_sim pm_a8_61 rfl ?_
    show pm_E _ _ _ 62 [(0, .ref (pl 0)), (1, .int (iI x1)), (2, .int (iI x2)), (3, .int (iI x3)), (4, .int (iI x4)), (5, .int (iI x5))] [.ref (pl 0)] _ _ _ _
    refine pm_i_get pm_a8_62 rfl (cg_0 hW) rfl ?_
    show pm_E _ _ _ 65 [(0, .ref (pl 0)), (1, .int (iI x1)), (2, .int (iI x2)), (3, .int (iI x3)), (4, .int (iI x4)), (5, .int (iI x5))] [.ref (pl 1)] _ _ _ _
    refine pm_i_get pm_a8_65 rfl (cg_1 hW) rfl ?_
    show pm_E _ _ _ 68 [(0, .ref (pl 0)), (1, .int (iI x1)), (2, .int (iI x2)), (3, .int (iI x3)), (4, .int (iI x4)), (5, .int (iI x5))] [.int (iI (s 4 + 4 + 4 + 4 + 4 + 4))] _ _ _ _
    refine pm_e_ret pm_a8_68 rfl rfl rfl rfl rfl rfl rfl rfl ?_
    refine k2 (by omega) _ _ _ (by omega) ?_ ?_
    · funext j; by_cases hj : j = 4 <;> simp [updS, hj] <;> omega
    · funext j; by_cases hj : j = 0
      · subst hj; rfl
      · simp [updA, hj]
  · skip
    show pm_E _ _ _ 16 [(0, .ref (pl 0)), (1, .int (iI x1)), (2, .int (iI x2)), (3, .int (iI x3)), (4, .int (iI x4)), (5, .int (iI x5))] [] _ _ _ _
    refine pm_e_sim pm_a8_16 rfl ?_
    refine pm_e_top (y := iI (-3)) (by decide +kernel) ?_
    show pm_E _ _ _ 18 [(0, .ref (pl 0)), (1, .int (iI x1)), (2, .int (iI x2)), (3, .int (iI x3)), (4, .int (iI x4)), (5, .int (iI x5))] [.int (iI (-3))] _ _ _ _
    refine pm_e_ret pm_a8_18 rfl rfl rfl rfl rfl rfl rfl rfl ?_
    exact k1 (by omega)
set_option maxHeartbeats 4000000 in
set_option maxRecDepth 100000 in
theorem C_end {d n : Nat} {kd pl : Nat → Nat} {s : Nat → Int} {a : Nat → Int → Int} {c : Nat → cdt} {M : List va_E} {Q : Option Value → List va_E → Nat → Nat → Prop} {x : Int} (hW : wf n kd pl) (hx : in32 x) (h0 : 0 ≤ s 4) (h1 : s 4 ≤ 600) (k1 : 0 ≤ x → x ≤ s 4 → Q (some (.int (iI (s 4)))) (ch n kd pl (updS s 4 x) a c M) 0 0) (k2 : x < 0 ∨ s 4 < x → Q (some (.int (iI (-1)))) (ch n kd pl s a c M) 0 0) : pm_E none d pm_mm10 0 [(0, .ref (pl 0)), (1, .int (iI x))] [] (ch n kd pl s a c M) 0 0 Q := by
  obtain ⟨_, _⟩ := id hx
  refine pm_e_sim pm_a10_0 rfl ?_
  show pm_E _ _ _ 1 [(0, .ref (pl 0)), (1, .int (iI x))] [.int (iI x)] _ _ _ _
  refine pm_i_lt (t := 15) pm_a10_1 rfl ⟨by omega, by omega⟩ (fun h_1 => ?_) (fun h_1 => ?_)
  · skip
    show pm_E _ _ _ 15 [(0, .ref (pl 0)), (1, .int (iI x))] [] _ _ _ _
    refine pm_e_sim pm_a10_15 rfl ?_
    refine pm_e_top (y := iI (-1)) (by decide +kernel) ?_
    show pm_E _ _ _ 16 [(0, .ref (pl 0)), (1, .int (iI x))] [.int (iI (-1))] _ _ _ _
    refine pm_e_ret pm_a10_16 rfl rfl rfl rfl rfl rfl rfl rfl ?_
    exact k2 (by omega)
  · skip
    show pm_E _ _ _ 4 [(0, .ref (pl 0)), (1, .int (iI x))] [] _ _ _ _
    refine pm_e_sim pm_a10_4 rfl ?_
    show pm_E _ _ _ 5 [(0, .ref (pl 0)), (1, .int (iI x))] [.int (iI x)] _ _ _ _
    refine pm_e_sim pm_a10_5 rfl ?_
    show pm_E _ _ _ 6 [(0, .ref (pl 0)), (1, .int (iI x))] [.ref (pl 0), .int (iI x)] _ _ _ _
    refine pm_i_get pm_a10_6 rfl (cg_0 hW) rfl ?_
    show pm_E _ _ _ 9 [(0, .ref (pl 0)), (1, .int (iI x))] [.ref (pl 1), .int (iI x)] _ _ _ _
    refine pm_i_get pm_a10_9 rfl (cg_1 hW) rfl ?_
    show pm_E _ _ _ 12 [(0, .ref (pl 0)), (1, .int (iI x))] [.int (iI (s 4)), .int (iI x)] _ _ _ _
    refine pm_c_le (t := 17) pm_a10_12 rfl ⟨by omega, by omega⟩ ⟨by omega, by omega⟩ (fun h_2 => ?_) (fun h_2 => ?_)
    · skip
      show pm_E _ _ _ 17 [(0, .ref (pl 0)), (1, .int (iI x))] [] _ _ _ _
      refine pm_e_sim pm_a10_17 rfl ?_
      show pm_E _ _ _ 18 [(0, .ref (pl 0)), (1, .int (iI x))] [.ref (pl 0)] _ _ _ _
      refine pm_i_get pm_a10_18 rfl (cg_0 hW) rfl ?_
      show pm_E _ _ _ 21 [(0, .ref (pl 0)), (1, .int (iI x))] [.ref (pl 1)] _ _ _ _
      refine pm_i_get pm_a10_21 rfl (cg_1 hW) rfl ?_
      show pm_E _ _ _ 24 [(0, .ref (pl 0)), (1, .int (iI x))] [.int (iI (s 4))] _ _ _ _
      refine pm_e_sim pm_a10_24 rfl ?_
      show pm_E _ _ _ 25 [(0, .ref (pl 0)), (1, .int (iI x)), (2, .int (iI (s 4)))] [] _ _ _ _
      refine pm_e_sim pm_a10_25 rfl ?_
      show pm_E _ _ _ 26 [(0, .ref (pl 0)), (1, .int (iI x)), (2, .int (iI (s 4)))] [.ref (pl 0)] _ _ _ _
      refine pm_i_get pm_a10_26 rfl (cg_0 hW) rfl ?_
      show pm_E _ _ _ 29 [(0, .ref (pl 0)), (1, .int (iI x)), (2, .int (iI (s 4)))] [.ref (pl 1)] _ _ _ _
      refine pm_e_sim pm_a10_29 rfl ?_
      show pm_E _ _ _ 30 [(0, .ref (pl 0)), (1, .int (iI x)), (2, .int (iI (s 4)))] [.int (iI x), .ref (pl 1)] _ _ _ _
      refine pm_i_put pm_a10_30 rfl (cg_1 hW) rfl (Nat.le_of_ble_eq_true rfl) (Or.inr rfl) (cw_4 hW x) ?_
      show pm_E _ _ _ 33 [(0, .ref (pl 0)), (1, .int (iI x)), (2, .int (iI (s 4)))] [] _ _ _ _
      refine pm_e_sim pm_a10_33 rfl ?_
      show pm_E _ _ _ 34 [(0, .ref (pl 0)), (1, .int (iI x)), (2, .int (iI (s 4)))] [.int (iI (s 4))] _ _ _ _
      refine pm_e_ret pm_a10_34 rfl rfl rfl rfl rfl rfl rfl rfl ?_
      exact k1 (by omega) (by omega)
    · skip
      show pm_E _ _ _ 15 [(0, .ref (pl 0)), (1, .int (iI x))] [] _ _ _ _
      refine pm_e_sim pm_a10_15 rfl ?_
      refine pm_e_top (y := iI (-1)) (by decide +kernel) ?_
      show pm_E _ _ _ 16 [(0, .ref (pl 0)), (1, .int (iI x))] [.int (iI (-1))] _ _ _ _
      refine pm_e_ret pm_a10_16 rfl rfl rfl rfl rfl rfl rfl rfl ?_
      exact k2 (by omega)
set_option maxHeartbeats 4000000 in
set_option maxRecDepth 100000 in
theorem C_fault {d n : Nat} {kd pl : Nat → Nat} {s : Nat → Int} {a : Nat → Int → Int} {c : Nat → cdt} {M : List va_E} {Q : Option Value → List va_E → Nat → Nat → Prop} (hW : wf n kd pl) (k : Q (some (.int (iI (s 1)))) (ch n kd pl s a c M) 0 0) : pm_E none d pm_mm43 0 [(0, .ref (pl 0))] [] (ch n kd pl s a c M) 0 0 Q := by
  refine pm_e_sim pm_a43_0 rfl ?_
  show pm_E _ _ _ 1 [(0, .ref (pl 0))] [.ref (pl 0)] _ _ _ _
  refine pm_i_get pm_a43_1 rfl (cg_0 hW) rfl ?_
  show pm_E _ _ _ 4 [(0, .ref (pl 0))] [.int (iI (s 1))] _ _ _ _
  refine pm_e_ret pm_a43_4 rfl rfl rfl rfl rfl rfl rfl rfl ?_
  exact k
set_option maxHeartbeats 4000000 in
set_option maxRecDepth 100000 in
theorem C_keepFresh {d n : Nat} {kd pl : Nat → Nat} {s : Nat → Int} {a : Nat → Int → Int} {c : Nat → cdt} {M : List va_E} {Q : Option Value → List va_E → Nat → Nat → Prop} (hW : wf n kd pl) (k : Q (some (.int (iI (s 0)))) (ch n kd pl (updS s 0 (s 0 + 1)) a c M) 0 0) : pm_E none d pm_mm42 0 [(0, .ref (pl 0))] [] (ch n kd pl s a c M) 0 0 Q := by
  refine pm_e_sim pm_a42_0 rfl ?_
  show pm_E _ _ _ 1 [(0, .ref (pl 0))] [.ref (pl 0)] _ _ _ _
  refine pm_e_sim pm_a42_1 rfl ?_
  show pm_E _ _ _ 2 [(0, .ref (pl 0))] [.ref (pl 0), .ref (pl 0)] _ _ _ _
  refine pm_i_get pm_a42_2 rfl (cg_0 hW) rfl ?_
  show pm_E _ _ _ 5 [(0, .ref (pl 0))] [.int (iI (s 0)), .ref (pl 0)] _ _ _ _
  refine pm_e_sim pm_a42_5 rfl ?_
  refine pm_e_top (y := iI 1) (by decide +kernel) ?_
  show pm_E _ _ _ 6 [(0, .ref (pl 0))] [.int (iI 1), .int (iI (s 0)), .ref (pl 0)] _ _ _ _
  refine pm_e_sim pm_a42_6 rfl ?_
  refine pm_e_top (y := iI (s 0 + 1)) (iI_add _ _) ?_
  show pm_E _ _ _ 7 [(0, .ref (pl 0))] [.int (iI (s 0 + 1)), .ref (pl 0)] _ _ _ _
  refine pm_i_put pm_a42_7 rfl (cg_0 hW) rfl (Nat.le_of_ble_eq_true rfl) (Or.inl rfl) (cw_0 hW (s 0 + 1)) ?_
  show pm_E _ _ _ 10 [(0, .ref (pl 0))] [] _ _ _ _
  refine pm_e_sim pm_a42_10 rfl ?_
  show pm_E _ _ _ 11 [(0, .ref (pl 0))] [.ref (pl 0)] _ _ _ _
  refine pm_i_get pm_a42_11 rfl (cg_0 hW) rfl ?_
  show pm_E _ _ _ 14 [(0, .ref (pl 0))] [.int (iI (s 0 + 1))] _ _ _ _
  refine pm_e_sim pm_a42_14 rfl ?_
  refine pm_e_top (y := iI 1) (by decide +kernel) ?_
  show pm_E _ _ _ 15 [(0, .ref (pl 0))] [.int (iI 1), .int (iI (s 0 + 1))] _ _ _ _
  refine pm_e_sim pm_a42_15 rfl ?_
  refine pm_e_top (y := iI (s 0 + 1 - 1)) (iI_sub _ _) ?_
  show pm_E _ _ _ 16 [(0, .ref (pl 0))] [.int (iI (s 0 + 1 - 1))] _ _ _ _
  refine pm_e_ret pm_a42_16 rfl rfl rfl rfl rfl rfl rfl rfl ?_
  have e9 : s 0 + 1 - 1 = s 0 := by omega
  rw [e9]
  exact k
set_option maxHeartbeats 4000000 in
set_option maxRecDepth 100000 in
theorem C_drop {d n : Nat} {kd pl : Nat → Nat} {s : Nat → Int} {a : Nat → Int → Int} {c : Nat → cdt} {M : List va_E} {Q : Option Value → List va_E → Nat → Nat → Prop} (hW : wf n kd pl) (h0 : 0 ≤ s 0) (h1 : s 0 ≤ 32) (k0 : s 0 = 0 → Q (some (.int (iI (-4)))) (ch n kd pl s a c M) 0 0) (k1 : s 0 ≠ 0 → Q (some (.int (iI (s 0 - 1)))) (ch n kd pl (updS s 0 (s 0 - 1)) a c M) 0 0) : pm_E none d pm_mm140 0 [(0, .ref (pl 0))] [] (ch n kd pl s a c M) 0 0 Q := by
  refine pm_e_sim pm_a140_0 rfl ?_
  show pm_E _ _ _ 1 [(0, .ref (pl 0))] [.ref (pl 0)] _ _ _ _
  refine pm_i_get pm_a140_1 rfl (cg_0 hW) rfl ?_
  show pm_E _ _ _ 4 [(0, .ref (pl 0))] [.int (iI (s 0))] _ _ _ _
  refine pm_i_ne (t := 10) pm_a140_4 rfl ⟨by omega, by omega⟩ (fun h_1 => ?_) (fun h_1 => ?_)
  · skip
    show pm_E _ _ _ 10 [(0, .ref (pl 0))] [] _ _ _ _
    refine pm_e_sim pm_a140_10 rfl ?_
    show pm_E _ _ _ 11 [(0, .ref (pl 0))] [.ref (pl 0)] _ _ _ _
    refine pm_e_sim pm_a140_11 rfl ?_
    show pm_E _ _ _ 12 [(0, .ref (pl 0))] [.ref (pl 0), .ref (pl 0)] _ _ _ _
    refine pm_i_get pm_a140_12 rfl (cg_0 hW) rfl ?_
    show pm_E _ _ _ 15 [(0, .ref (pl 0))] [.int (iI (s 0)), .ref (pl 0)] _ _ _ _
    refine pm_e_sim pm_a140_15 rfl ?_
    refine pm_e_top (y := iI 1) (by decide +kernel) ?_
    show pm_E _ _ _ 16 [(0, .ref (pl 0))] [.int (iI 1), .int (iI (s 0)), .ref (pl 0)] _ _ _ _
    refine pm_e_sim pm_a140_16 rfl ?_
    refine pm_e_top (y := iI (s 0 - 1)) (iI_sub _ _) ?_
    show pm_E _ _ _ 17 [(0, .ref (pl 0))] [.int (iI (s 0 - 1)), .ref (pl 0)] _ _ _ _
    refine pm_i_put pm_a140_17 rfl (cg_0 hW) rfl (Nat.le_of_ble_eq_true rfl) (Or.inl rfl) (cw_0 hW (s 0 - 1)) ?_
    show pm_E _ _ _ 20 [(0, .ref (pl 0))] [] _ _ _ _
    refine pm_e_sim pm_a140_20 rfl ?_
    show pm_E _ _ _ 21 [(0, .ref (pl 0))] [.ref (pl 0)] _ _ _ _
    refine pm_i_get pm_a140_21 rfl (cg_0 hW) rfl ?_
    show pm_E _ _ _ 24 [(0, .ref (pl 0))] [.int (iI (s 0 - 1))] _ _ _ _
    refine pm_e_ret pm_a140_24 rfl rfl rfl rfl rfl rfl rfl rfl ?_
    exact k1 (by omega)
  · skip
    show pm_E _ _ _ 7 [(0, .ref (pl 0))] [] _ _ _ _
    refine pm_e_sim pm_a140_7 rfl ?_
    refine pm_e_top (y := iI (-4)) (by decide +kernel) ?_
    show pm_E _ _ _ 9 [(0, .ref (pl 0))] [.int (iI (-4))] _ _ _ _
    refine pm_e_ret pm_a140_9 rfl rfl rfl rfl rfl rfl rfl rfl ?_
    exact k0 (by omega)
set_option maxHeartbeats 4000000 in
set_option maxRecDepth 100000 in
theorem C_isWay {d n : Nat} {kd pl : Nat → Nat} {s : Nat → Int} {a : Nat → Int → Int} {c : Nat → cdt} {M : List va_E} {Q : Option Value → List va_E → Nat → Nat → Prop} {x : Int} (hx : in32 x) (k1 : 0 ≤ x → x ≤ 3 → Q (some (.int (iI 1))) (ch n kd pl s a c M) 0 0) (k0 : x < 0 ∨ 3 < x → Q (some (.int (iI 0))) (ch n kd pl s a c M) 0 0) : pm_E none d pm_mm64 0 [(0, .int (iI x))] [] (ch n kd pl s a c M) 0 0 Q := by
  obtain ⟨_, _⟩ := id hx
  refine pm_e_sim pm_a64_0 rfl ?_
  show pm_E _ _ _ 1 [(0, .int (iI x))] [.int (iI x)] _ _ _ _
  refine pm_i_lt (t := 13) pm_a64_1 rfl ⟨by omega, by omega⟩ (fun h_1 => ?_) (fun h_1 => ?_)
  · skip
    show pm_E _ _ _ 13 [(0, .int (iI x))] [] _ _ _ _
    refine pm_e_sim pm_a64_13 rfl ?_
    refine pm_e_top (y := iI 0) (by decide +kernel) ?_
    show pm_E _ _ _ 14 [(0, .int (iI x))] [.int (iI 0)] _ _ _ _
    refine pm_e_ret pm_a64_14 rfl rfl rfl rfl rfl rfl rfl rfl ?_
    exact k0 (by omega)
  · skip
    show pm_E _ _ _ 4 [(0, .int (iI x))] [] _ _ _ _
    refine pm_e_sim pm_a64_4 rfl ?_
    show pm_E _ _ _ 5 [(0, .int (iI x))] [.int (iI x)] _ _ _ _
    refine pm_e_sim pm_a64_5 rfl ?_
    refine pm_e_top (y := iI 3) (by decide +kernel) ?_
    show pm_E _ _ _ 6 [(0, .int (iI x))] [.int (iI 3), .int (iI x)] _ _ _ _
    refine pm_c_gt (t := 13) pm_a64_6 rfl ⟨by omega, by omega⟩ ⟨by omega, by omega⟩ (fun h_2 => ?_) (fun h_2 => ?_)
    · skip
      show pm_E _ _ _ 13 [(0, .int (iI x))] [] _ _ _ _
      refine pm_e_sim pm_a64_13 rfl ?_
      refine pm_e_top (y := iI 0) (by decide +kernel) ?_
      show pm_E _ _ _ 14 [(0, .int (iI x))] [.int (iI 0)] _ _ _ _
      refine pm_e_ret pm_a64_14 rfl rfl rfl rfl rfl rfl rfl rfl ?_
      exact k0 (by omega)
    · skip
      show pm_E _ _ _ 9 [(0, .int (iI x))] [] _ _ _ _
      refine pm_e_sim pm_a64_9 rfl ?_
      refine pm_e_top (y := iI 1) (by decide +kernel) ?_
      show pm_E _ _ _ 10 [(0, .int (iI x))] [.int (iI 1)] _ _ _ _
      refine pm_e_goto pm_a64_10 rfl ?_
      show pm_E _ _ _ 14 [(0, .int (iI x))] [.int (iI 1)] _ _ _ _
      refine pm_e_ret pm_a64_14 rfl rfl rfl rfl rfl rfl rfl rfl ?_
      exact k1 (by omega) (by omega)
set_option maxHeartbeats 4000000 in
set_option maxRecDepth 100000 in
theorem C_isFuel {d n : Nat} {kd pl : Nat → Nat} {s : Nat → Int} {a : Nat → Int → Int} {c : Nat → cdt} {M : List va_E} {Q : Option Value → List va_E → Nat → Nat → Prop} {x : Int} (hx : in32 x) (k1 : 0 ≤ x → x ≤ 200 → Q (some (.int (iI 1))) (ch n kd pl s a c M) 0 0) (k0 : x < 0 ∨ 200 < x → Q (some (.int (iI 0))) (ch n kd pl s a c M) 0 0) : pm_E none d pm_mm88 0 [(0, .int (iI x))] [] (ch n kd pl s a c M) 0 0 Q := by
  obtain ⟨_, _⟩ := id hx
  refine pm_e_sim pm_a88_0 rfl ?_
  show pm_E _ _ _ 1 [(0, .int (iI x))] [.int (iI x)] _ _ _ _
  refine pm_i_lt (t := 15) pm_a88_1 rfl ⟨by omega, by omega⟩ (fun h_1 => ?_) (fun h_1 => ?_)
  · skip
    show pm_E _ _ _ 15 [(0, .int (iI x))] [] _ _ _ _
    refine pm_e_sim pm_a88_15 rfl ?_
    refine pm_e_top (y := iI 0) (by decide +kernel) ?_
    show pm_E _ _ _ 16 [(0, .int (iI x))] [.int (iI 0)] _ _ _ _
    refine pm_e_ret pm_a88_16 rfl rfl rfl rfl rfl rfl rfl rfl ?_
    exact k0 (by omega)
  · skip
    show pm_E _ _ _ 4 [(0, .int (iI x))] [] _ _ _ _
    refine pm_e_sim pm_a88_4 rfl ?_
    show pm_E _ _ _ 5 [(0, .int (iI x))] [.int (iI x)] _ _ _ _
    refine pm_e_sim pm_a88_5 rfl ?_
    refine pm_e_top (y := iI 200) (by decide +kernel) ?_
    show pm_E _ _ _ 8 [(0, .int (iI x))] [.int (iI 200), .int (iI x)] _ _ _ _
    refine pm_c_gt (t := 15) pm_a88_8 rfl ⟨by omega, by omega⟩ ⟨by omega, by omega⟩ (fun h_2 => ?_) (fun h_2 => ?_)
    · skip
      show pm_E _ _ _ 15 [(0, .int (iI x))] [] _ _ _ _
      refine pm_e_sim pm_a88_15 rfl ?_
      refine pm_e_top (y := iI 0) (by decide +kernel) ?_
      show pm_E _ _ _ 16 [(0, .int (iI x))] [.int (iI 0)] _ _ _ _
      refine pm_e_ret pm_a88_16 rfl rfl rfl rfl rfl rfl rfl rfl ?_
      exact k0 (by omega)
    · skip
      show pm_E _ _ _ 11 [(0, .int (iI x))] [] _ _ _ _
      refine pm_e_sim pm_a88_11 rfl ?_
      refine pm_e_top (y := iI 1) (by decide +kernel) ?_
      show pm_E _ _ _ 12 [(0, .int (iI x))] [.int (iI 1)] _ _ _ _
      refine pm_e_goto pm_a88_12 rfl ?_
      show pm_E _ _ _ 16 [(0, .int (iI x))] [.int (iI 1)] _ _ _ _
      refine pm_e_ret pm_a88_16 rfl rfl rfl rfl rfl rfl rfl rfl ?_
      exact k1 (by omega) (by omega)
