/-! THE CLASS: Code: replacePart, endFrom, isLike, hasCell -/
theorem cy2 {g gm : Int → Int} {p e z : Int} {lp : List Int} {q : Int} (hp : 0 ≤ p) (hpe : p ≤ e) (hez : e ≤ z) (hg : rg gm lp.length 0 = lp) (hq : q = lp.length) : rg (cyI gm (cyI g g e (p + q) (z - e)) 0 p q) (rg g p.toNat 0 ++ lp ++ rg g (z - e).toNat e).length 0 = rg g p.toNat 0 ++ lp ++ rg g (z - e).toNat e := by
  subst hq
  rw [List.length_append, List.length_append, rg_len, rg_len, rg_app, rg_app]
  congr 1
  · congr 1
    · exact rg_eq (fun j a b => by unfold cyI; rw [if_neg (by omega), if_neg (by omega)])
    · have := rg_congr (g := gm) (g' := cyI gm (cyI g g e (p + (lp.length : Int)) (z - e)) 0 p (lp.length : Int)) (n := lp.length) (p := 0) (o := p) (fun j a b => by unfold cyI; rw [if_pos (by omega), show 0 + (j + p - p) = j by omega])
      rw [show (0 : Int) + p = 0 + (p.toNat : Int) by omega] at this
      rw [this]; exact hg
  · have := rg_congr (g := g) (g' := cyI gm (cyI g g e (p + (lp.length : Int)) (z - e)) 0 p (lp.length : Int)) (n := (z - e).toNat) (p := e) (o := p + (lp.length : Int) - e) (fun j a b => by unfold cyI; rw [if_neg (by omega), if_pos (by omega), show e + (j + (p + (lp.length : Int) - e) - (p + (lp.length : Int))) = j by omega])
    rw [show e + (p + (lp.length : Int) - e) = 0 + ((p.toNat + lp.length : Nat) : Int) by omega] at this
    exact this
set_option maxHeartbeats 4000000 in
set_option maxRecDepth 100000 in
theorem C_replacePart {d n : Nat} {kd pl : Nat → Nat} {s : Nat → Int} {a : Nat → Int → Int} {c : Nat → cdt} {M : List va_E} {Q : Option Value → List va_E → Nat → Nat → Prop} {j : Nat} {m : Nat} {p e : Int} {lp : List Int} {y : cdt} (hW : wf n kd pl) (hj : j < 38 ∧ al n kd pl (60 + 2 * j)) (hm : m < 38 ∧ al n kd pl (60 + 2 * m)) (hjm : j ≠ m) (hrm : rm j ≤ rm m) (hy : c m = y) (hoj : okx (rm j) (c j)) (hov : (c j).2.1 = 0) (hl0 : md y (rm m) lp) (hp : 0 ≤ p) (hpe : p ≤ e) (he : e ≤ (c j).1) (k1 : (rg (c j).2.2 p.toNat 0 ++ lp ++ rg (c j).2.2 ((c j).1 - e).toNat e).length ≤ rm j → ∀ x, md x (rm j) (rg (c j).2.2 p.toNat 0 ++ lp ++ rg (c j).2.2 ((c j).1 - e).toNat e) → Q (some (.int (iI 1))) (ch n kd pl s a (updC c j x) M) 0 0) (k0 : rm j < (rg (c j).2.2 p.toNat 0 ++ lp ++ rg (c j).2.2 ((c j).1 - e).toNat e).length → Q (some (.int (iI 0))) (ch n kd pl s a c M) 0 0) : pm_E none d pm_mm86 0 [(0, .ref (pl (60 + 2 * j))), (1, .int (iI p)), (2, .int (iI e)), (3, .ref (pl (60 + 2 * m)))] [] (ch n kd pl s a c M) 0 0 Q := by
  obtain ⟨hom, hl⟩ := hl0
  obtain ⟨o1, o2, o3, o4⟩ := id hoj
  obtain ⟨q1, q2, q3, q4⟩ := id hom
  have rb := rm_b j
  have rb2 := rm_b m
  refine pm_e_sim pm_a86_0 rfl ?_
  show pm_E _ _ _ 1 [(0, .ref (pl (60 + 2 * j))), (1, .int (iI p)), (2, .int (iI e)), (3, .ref (pl (60 + 2 * m)))] [.int (iI p)] _ _ _ _
  refine pm_i_lt (t := 21) pm_a86_1 rfl ⟨by omega, by omega⟩ (fun h_1 => ?_) (fun h_1 => ?_)
  · skip
    exfalso; omega
  · skip
    show pm_E _ _ _ 4 [(0, .ref (pl (60 + 2 * j))), (1, .int (iI p)), (2, .int (iI e)), (3, .ref (pl (60 + 2 * m)))] [] _ _ _ _
    refine pm_e_sim pm_a86_4 rfl ?_
    show pm_E _ _ _ 5 [(0, .ref (pl (60 + 2 * j))), (1, .int (iI p)), (2, .int (iI e)), (3, .ref (pl (60 + 2 * m)))] [.int (iI p)] _ _ _ _
    refine pm_e_sim pm_a86_5 rfl ?_
    show pm_E _ _ _ 6 [(0, .ref (pl (60 + 2 * j))), (1, .int (iI p)), (2, .int (iI e)), (3, .ref (pl (60 + 2 * m)))] [.int (iI e), .int (iI p)] _ _ _ _
    refine pm_c_gt (t := 21) pm_a86_6 rfl ⟨by omega, by omega⟩ ⟨by omega, by omega⟩ (fun h_2 => ?_) (fun h_2 => ?_)
    · skip
      exfalso; omega
    · skip
      show pm_E _ _ _ 9 [(0, .ref (pl (60 + 2 * j))), (1, .int (iI p)), (2, .int (iI e)), (3, .ref (pl (60 + 2 * m)))] [] _ _ _ _
      refine pm_e_sim pm_a86_9 rfl ?_
      show pm_E _ _ _ 10 [(0, .ref (pl (60 + 2 * j))), (1, .int (iI p)), (2, .int (iI e)), (3, .ref (pl (60 + 2 * m)))] [.int (iI e)] _ _ _ _
      refine pm_e_sim pm_a86_10 rfl ?_
      show pm_E _ _ _ 11 [(0, .ref (pl (60 + 2 * j))), (1, .int (iI p)), (2, .int (iI e)), (3, .ref (pl (60 + 2 * m)))] [.ref (pl (60 + 2 * j)), .int (iI e)] _ _ _ _
      refine pm_i_get pm_a86_11 rfl (cg_o hj) rfl ?_
      show pm_E _ _ _ 14 [(0, .ref (pl (60 + 2 * j))), (1, .int (iI p)), (2, .int (iI e)), (3, .ref (pl (60 + 2 * m)))] [.int (iI ((c j).1)), .int (iI e)] _ _ _ _
      refine pm_c_gt (t := 21) pm_a86_14 rfl ⟨by omega, by omega⟩ ⟨by omega, by omega⟩ (fun h_3 => ?_) (fun h_3 => ?_)
      · skip
        exfalso; omega
      · skip
        show pm_E _ _ _ 17 [(0, .ref (pl (60 + 2 * j))), (1, .int (iI p)), (2, .int (iI e)), (3, .ref (pl (60 + 2 * m)))] [] _ _ _ _
        refine pm_e_sim pm_a86_17 rfl ?_
        refine pm_e_top (y := iI 1) (by decide +kernel) ?_
        show pm_E _ _ _ 18 [(0, .ref (pl (60 + 2 * j))), (1, .int (iI p)), (2, .int (iI e)), (3, .ref (pl (60 + 2 * m)))] [.int (iI 1)] _ _ _ _
        refine pm_e_goto pm_a86_18 rfl ?_
        show pm_E _ _ _ 22 [(0, .ref (pl (60 + 2 * j))), (1, .int (iI p)), (2, .int (iI e)), (3, .ref (pl (60 + 2 * m)))] [.int (iI 1)] _ _ _ _
        refine pm_e_sim pm_a86_22 rfl ?_
        show pm_E _ _ _ 24 [(0, .ref (pl (60 + 2 * j))), (1, .int (iI p)), (2, .int (iI e)), (3, .ref (pl (60 + 2 * m))), (4, .int (iI 1))] [] _ _ _ _
        refine pm_e_sim pm_a86_24 rfl ?_
        show pm_E _ _ _ 25 [(0, .ref (pl (60 + 2 * j))), (1, .int (iI p)), (2, .int (iI e)), (3, .ref (pl (60 + 2 * m))), (4, .int (iI 1))] [.ref (pl (60 + 2 * j))] _ _ _ _
        refine pm_i_get pm_a86_25 rfl (cg_o hj) rfl ?_
        show pm_E _ _ _ 28 [(0, .ref (pl (60 + 2 * j))), (1, .int (iI p)), (2, .int (iI e)), (3, .ref (pl (60 + 2 * m))), (4, .int (iI 1))] [.int (iI ((c j).1))] _ _ _ _
        refine pm_e_sim pm_a86_28 rfl ?_
        show pm_E _ _ _ 29 [(0, .ref (pl (60 + 2 * j))), (1, .int (iI p)), (2, .int (iI e)), (3, .ref (pl (60 + 2 * m))), (4, .int (iI 1))] [.int (iI e), .int (iI ((c j).1))] _ _ _ _
        refine pm_e_sim pm_a86_29 rfl ?_
        show pm_E _ _ _ 30 [(0, .ref (pl (60 + 2 * j))), (1, .int (iI p)), (2, .int (iI e)), (3, .ref (pl (60 + 2 * m))), (4, .int (iI 1))] [.int (iI p), .int (iI e), .int (iI ((c j).1))] _ _ _ _
        refine pm_e_sim pm_a86_30 rfl ?_
        refine pm_e_top (y := iI (e - p)) (iI_sub _ _) ?_
        show pm_E _ _ _ 31 [(0, .ref (pl (60 + 2 * j))), (1, .int (iI p)), (2, .int (iI e)), (3, .ref (pl (60 + 2 * m))), (4, .int (iI 1))] [.int (iI (e - p)), .int (iI ((c j).1))] _ _ _ _
        refine pm_e_sim pm_a86_31 rfl ?_
        refine pm_e_top (y := iI ((c j).1 - (e - p))) (iI_sub _ _) ?_
        show pm_E _ _ _ 32 [(0, .ref (pl (60 + 2 * j))), (1, .int (iI p)), (2, .int (iI e)), (3, .ref (pl (60 + 2 * m))), (4, .int (iI 1))] [.int (iI ((c j).1 - (e - p)))] _ _ _ _
        refine pm_e_sim pm_a86_32 rfl ?_
        show pm_E _ _ _ 33 [(0, .ref (pl (60 + 2 * j))), (1, .int (iI p)), (2, .int (iI e)), (3, .ref (pl (60 + 2 * m))), (4, .int (iI 1))] [.ref (pl (60 + 2 * m)), .int (iI ((c j).1 - (e - p)))] _ _ _ _
        refine pm_i_get pm_a86_33 rfl (cg_o hm) rfl ?_
        refine pm_e_top (y := iI ((y).1)) (congrArg (fun z : cdt => iI z.1) hy) ?_
        show pm_E _ _ _ 36 [(0, .ref (pl (60 + 2 * j))), (1, .int (iI p)), (2, .int (iI e)), (3, .ref (pl (60 + 2 * m))), (4, .int (iI 1))] [.int (iI ((y).1)), .int (iI ((c j).1 - (e - p)))] _ _ _ _
        refine pm_e_sim pm_a86_36 rfl ?_
        refine pm_e_top (y := iI ((c j).1 - (e - p) + ((y).1))) (iI_add _ _) ?_
        show pm_E _ _ _ 37 [(0, .ref (pl (60 + 2 * j))), (1, .int (iI p)), (2, .int (iI e)), (3, .ref (pl (60 + 2 * m))), (4, .int (iI 1))] [.int (iI ((c j).1 - (e - p) + ((y).1)))] _ _ _ _
        refine pm_e_sim pm_a86_37 rfl ?_
        show pm_E _ _ _ 39 [(0, .ref (pl (60 + 2 * j))), (1, .int (iI p)), (2, .int (iI e)), (3, .ref (pl (60 + 2 * m))), (4, .int (iI 1)), (5, .int (iI ((c j).1 - (e - p) + ((y).1))))] [] _ _ _ _
        refine pm_e_sim pm_a86_39 rfl ?_
        show pm_E _ _ _ 41 [(0, .ref (pl (60 + 2 * j))), (1, .int (iI p)), (2, .int (iI e)), (3, .ref (pl (60 + 2 * m))), (4, .int (iI 1)), (5, .int (iI ((c j).1 - (e - p) + ((y).1))))] [.int (iI 1)] _ _ _ _
        refine pm_e_iff pm_a86_41 rfl (by decide +kernel) ?_
        show pm_E _ _ _ 44 [(0, .ref (pl (60 + 2 * j))), (1, .int (iI p)), (2, .int (iI e)), (3, .ref (pl (60 + 2 * m))), (4, .int (iI 1)), (5, .int (iI ((c j).1 - (e - p) + ((y).1))))] [] _ _ _ _
        refine pm_e_sim pm_a86_44 rfl ?_
        show pm_E _ _ _ 45 [(0, .ref (pl (60 + 2 * j))), (1, .int (iI p)), (2, .int (iI e)), (3, .ref (pl (60 + 2 * m))), (4, .int (iI 1)), (5, .int (iI ((c j).1 - (e - p) + ((y).1))))] [.ref (pl (60 + 2 * m))] _ _ _ _
        refine pm_i_get pm_a86_45 rfl (cg_o hm) rfl ?_
        refine pm_e_top (y := iI ((y).2.1)) (congrArg (fun z : cdt => iI z.2.1) hy) ?_
        show pm_E _ _ _ 48 [(0, .ref (pl (60 + 2 * j))), (1, .int (iI p)), (2, .int (iI e)), (3, .ref (pl (60 + 2 * m))), (4, .int (iI 1)), (5, .int (iI ((c j).1 - (e - p) + ((y).1))))] [.int (iI ((y).2.1))] _ _ _ _
        refine pm_i_ne (t := 61) pm_a86_48 rfl ⟨by omega, by omega⟩ (fun h_4 => ?_) (fun h_4 => ?_)
        · skip
          show pm_E _ _ _ 61 [(0, .ref (pl (60 + 2 * j))), (1, .int (iI p)), (2, .int (iI e)), (3, .ref (pl (60 + 2 * m))), (4, .int (iI 1)), (5, .int (iI ((c j).1 - (e - p) + ((y).1))))] [] _ _ _ _
          refine pm_e_sim pm_a86_61 rfl ?_
          refine pm_e_top (y := iI 0) (by decide +kernel) ?_
          show pm_E _ _ _ 62 [(0, .ref (pl (60 + 2 * j))), (1, .int (iI p)), (2, .int (iI e)), (3, .ref (pl (60 + 2 * m))), (4, .int (iI 1)), (5, .int (iI ((c j).1 - (e - p) + ((y).1))))] [.int (iI 0)] _ _ _ _
          refine pm_e_ret pm_a86_62 rfl rfl rfl rfl rfl rfl rfl rfl ?_
          refine k0 ?_
          rw [List.length_append, List.length_append, rg_len, rg_len]
          rcases hl with ⟨z1, z2, z3, z4⟩ | ⟨z1, z2⟩ <;> omega
        · skip
          show pm_E _ _ _ 51 [(0, .ref (pl (60 + 2 * j))), (1, .int (iI p)), (2, .int (iI e)), (3, .ref (pl (60 + 2 * m))), (4, .int (iI 1)), (5, .int (iI ((c j).1 - (e - p) + ((y).1))))] [] _ _ _ _
          refine pm_e_sim pm_a86_51 rfl ?_
          show pm_E _ _ _ 53 [(0, .ref (pl (60 + 2 * j))), (1, .int (iI p)), (2, .int (iI e)), (3, .ref (pl (60 + 2 * m))), (4, .int (iI 1)), (5, .int (iI ((c j).1 - (e - p) + ((y).1))))] [.int (iI ((c j).1 - (e - p) + ((y).1)))] _ _ _ _
          refine pm_e_sim pm_a86_53 rfl ?_
          show pm_E _ _ _ 54 [(0, .ref (pl (60 + 2 * j))), (1, .int (iI p)), (2, .int (iI e)), (3, .ref (pl (60 + 2 * m))), (4, .int (iI 1)), (5, .int (iI ((c j).1 - (e - p) + ((y).1))))] [.ref (pl (60 + 2 * j)), .int (iI ((c j).1 - (e - p) + ((y).1)))] _ _ _ _
          refine pm_i_get pm_a86_54 rfl (cg_o hj) rfl ?_
          show pm_E _ _ _ 57 [(0, .ref (pl (60 + 2 * j))), (1, .int (iI p)), (2, .int (iI e)), (3, .ref (pl (60 + 2 * m))), (4, .int (iI 1)), (5, .int (iI ((c j).1 - (e - p) + ((y).1))))] [.ref (pl (61 + 2 * j)), .int (iI ((c j).1 - (e - p) + ((y).1)))] _ _ _ _
          refine pm_i_aln pm_a86_57 (cg_a hW hj) ?_
          show pm_E _ _ _ 58 [(0, .ref (pl (60 + 2 * j))), (1, .int (iI p)), (2, .int (iI e)), (3, .ref (pl (60 + 2 * m))), (4, .int (iI 1)), (5, .int (iI ((c j).1 - (e - p) + ((y).1))))] [.int (iI (rm j : Int)), .int (iI ((c j).1 - (e - p) + ((y).1)))] _ _ _ _
          refine pm_c_le (t := 63) pm_a86_58 rfl ⟨by omega, by omega⟩ ⟨by omega, by omega⟩ (fun h_5 => ?_) (fun h_5 => ?_)
          · skip
            show pm_E _ _ _ 63 [(0, .ref (pl (60 + 2 * j))), (1, .int (iI p)), (2, .int (iI e)), (3, .ref (pl (60 + 2 * m))), (4, .int (iI 1)), (5, .int (iI ((c j).1 - (e - p) + ((y).1))))] [] _ _ _ _
            refine pm_e_sim pm_a86_63 rfl ?_
            show pm_E _ _ _ 64 [(0, .ref (pl (60 + 2 * j))), (1, .int (iI p)), (2, .int (iI e)), (3, .ref (pl (60 + 2 * m))), (4, .int (iI 1)), (5, .int (iI ((c j).1 - (e - p) + ((y).1))))] [.ref (pl (60 + 2 * j))] _ _ _ _
            refine pm_i_get pm_a86_64 rfl (cg_o hj) rfl ?_
            show pm_E _ _ _ 67 [(0, .ref (pl (60 + 2 * j))), (1, .int (iI p)), (2, .int (iI e)), (3, .ref (pl (60 + 2 * m))), (4, .int (iI 1)), (5, .int (iI ((c j).1 - (e - p) + ((y).1))))] [.ref (pl (61 + 2 * j))] _ _ _ _
            refine pm_e_sim pm_a86_67 rfl ?_
            show pm_E _ _ _ 68 [(0, .ref (pl (60 + 2 * j))), (1, .int (iI p)), (2, .int (iI e)), (3, .ref (pl (60 + 2 * m))), (4, .int (iI 1)), (5, .int (iI ((c j).1 - (e - p) + ((y).1))))] [.int (iI e), .ref (pl (61 + 2 * j))] _ _ _ _
            refine pm_e_sim pm_a86_68 rfl ?_
            show pm_E _ _ _ 69 [(0, .ref (pl (60 + 2 * j))), (1, .int (iI p)), (2, .int (iI e)), (3, .ref (pl (60 + 2 * m))), (4, .int (iI 1)), (5, .int (iI ((c j).1 - (e - p) + ((y).1))))] [.ref (pl (60 + 2 * j)), .int (iI e), .ref (pl (61 + 2 * j))] _ _ _ _
            refine pm_i_get pm_a86_69 rfl (cg_o hj) rfl ?_
            show pm_E _ _ _ 72 [(0, .ref (pl (60 + 2 * j))), (1, .int (iI p)), (2, .int (iI e)), (3, .ref (pl (60 + 2 * m))), (4, .int (iI 1)), (5, .int (iI ((c j).1 - (e - p) + ((y).1))))] [.ref (pl (61 + 2 * j)), .int (iI e), .ref (pl (61 + 2 * j))] _ _ _ _
            refine pm_e_sim pm_a86_72 rfl ?_
            show pm_E _ _ _ 73 [(0, .ref (pl (60 + 2 * j))), (1, .int (iI p)), (2, .int (iI e)), (3, .ref (pl (60 + 2 * m))), (4, .int (iI 1)), (5, .int (iI ((c j).1 - (e - p) + ((y).1))))] [.int (iI p), .ref (pl (61 + 2 * j)), .int (iI e), .ref (pl (61 + 2 * j))] _ _ _ _
            refine pm_e_sim pm_a86_73 rfl ?_
            show pm_E _ _ _ 74 [(0, .ref (pl (60 + 2 * j))), (1, .int (iI p)), (2, .int (iI e)), (3, .ref (pl (60 + 2 * m))), (4, .int (iI 1)), (5, .int (iI ((c j).1 - (e - p) + ((y).1))))] [.ref (pl (60 + 2 * m)), .int (iI p), .ref (pl (61 + 2 * j)), .int (iI e), .ref (pl (61 + 2 * j))] _ _ _ _
            refine pm_i_get pm_a86_74 rfl (cg_o hm) rfl ?_
            refine pm_e_top (y := iI ((y).1)) (congrArg (fun z : cdt => iI z.1) hy) ?_
            show pm_E _ _ _ 77 [(0, .ref (pl (60 + 2 * j))), (1, .int (iI p)), (2, .int (iI e)), (3, .ref (pl (60 + 2 * m))), (4, .int (iI 1)), (5, .int (iI ((c j).1 - (e - p) + ((y).1))))] [.int (iI ((y).1)), .int (iI p), .ref (pl (61 + 2 * j)), .int (iI e), .ref (pl (61 + 2 * j))] _ _ _ _
            refine pm_e_sim pm_a86_77 rfl ?_
            refine pm_e_top (y := iI (p + ((y).1))) (iI_add _ _) ?_
            show pm_E _ _ _ 78 [(0, .ref (pl (60 + 2 * j))), (1, .int (iI p)), (2, .int (iI e)), (3, .ref (pl (60 + 2 * m))), (4, .int (iI 1)), (5, .int (iI ((c j).1 - (e - p) + ((y).1))))] [.int (iI (p + ((y).1))), .ref (pl (61 + 2 * j)), .int (iI e), .ref (pl (61 + 2 * j))] _ _ _ _
            refine pm_e_sim pm_a86_78 rfl ?_
            show pm_E _ _ _ 79 [(0, .ref (pl (60 + 2 * j))), (1, .int (iI p)), (2, .int (iI e)), (3, .ref (pl (60 + 2 * m))), (4, .int (iI 1)), (5, .int (iI ((c j).1 - (e - p) + ((y).1))))] [.ref (pl (60 + 2 * j)), .int (iI (p + ((y).1))), .ref (pl (61 + 2 * j)), .int (iI e), .ref (pl (61 + 2 * j))] _ _ _ _
            refine pm_i_get pm_a86_79 rfl (cg_o hj) rfl ?_
            show pm_E _ _ _ 82 [(0, .ref (pl (60 + 2 * j))), (1, .int (iI p)), (2, .int (iI e)), (3, .ref (pl (60 + 2 * m))), (4, .int (iI 1)), (5, .int (iI ((c j).1 - (e - p) + ((y).1))))] [.int (iI ((c j).1)), .int (iI (p + ((y).1))), .ref (pl (61 + 2 * j)), .int (iI e), .ref (pl (61 + 2 * j))] _ _ _ _
            refine pm_e_sim pm_a86_82 rfl ?_
            show pm_E _ _ _ 83 [(0, .ref (pl (60 + 2 * j))), (1, .int (iI p)), (2, .int (iI e)), (3, .ref (pl (60 + 2 * m))), (4, .int (iI 1)), (5, .int (iI ((c j).1 - (e - p) + ((y).1))))] [.int (iI e), .int (iI ((c j).1)), .int (iI (p + ((y).1))), .ref (pl (61 + 2 * j)), .int (iI e), .ref (pl (61 + 2 * j))] _ _ _ _
            refine pm_e_sim pm_a86_83 rfl ?_
            refine pm_e_top (y := iI ((c j).1 - e)) (iI_sub _ _) ?_
            show pm_E _ _ _ 84 [(0, .ref (pl (60 + 2 * j))), (1, .int (iI p)), (2, .int (iI e)), (3, .ref (pl (60 + 2 * m))), (4, .int (iI 1)), (5, .int (iI ((c j).1 - (e - p) + ((y).1))))] [.int (iI ((c j).1 - e)), .int (iI (p + ((y).1))), .ref (pl (61 + 2 * j)), .int (iI e), .ref (pl (61 + 2 * j))] _ _ _ _
            refine pm_i_cpy pm_a86_84 rfl (Nat.le_of_ble_eq_true rfl) (cg_a hW hj) (cg_a hW hj) ⟨by omega, by omega⟩ ⟨by omega, by omega⟩ ⟨by omega, by omega⟩ (by omega) (by omega) (by omega) (by omega) (by omega) (cw_ca hW hj _) ?_
            show pm_E _ _ _ 87 [(0, .ref (pl (60 + 2 * j))), (1, .int (iI p)), (2, .int (iI e)), (3, .ref (pl (60 + 2 * m))), (4, .int (iI 1)), (5, .int (iI ((c j).1 - (e - p) + ((y).1))))] [] _ _ _ _
            refine pm_e_sim pm_a86_87 rfl ?_
            show pm_E _ _ _ 88 [(0, .ref (pl (60 + 2 * j))), (1, .int (iI p)), (2, .int (iI e)), (3, .ref (pl (60 + 2 * m))), (4, .int (iI 1)), (5, .int (iI ((c j).1 - (e - p) + ((y).1))))] [.ref (pl (60 + 2 * m))] _ _ _ _
            refine pm_i_get pm_a86_88 rfl (cg_o hm) rfl ?_
            show pm_E _ _ _ 91 [(0, .ref (pl (60 + 2 * j))), (1, .int (iI p)), (2, .int (iI e)), (3, .ref (pl (60 + 2 * m))), (4, .int (iI 1)), (5, .int (iI ((c j).1 - (e - p) + ((y).1))))] [.ref (pl (61 + 2 * m))] _ _ _ _
            refine pm_e_sim pm_a86_91 rfl ?_
            refine pm_e_top (y := iI 0) (by decide +kernel) ?_
            show pm_E _ _ _ 92 [(0, .ref (pl (60 + 2 * j))), (1, .int (iI p)), (2, .int (iI e)), (3, .ref (pl (60 + 2 * m))), (4, .int (iI 1)), (5, .int (iI ((c j).1 - (e - p) + ((y).1))))] [.int (iI 0), .ref (pl (61 + 2 * m))] _ _ _ _
            refine pm_e_sim pm_a86_92 rfl ?_
            show pm_E _ _ _ 93 [(0, .ref (pl (60 + 2 * j))), (1, .int (iI p)), (2, .int (iI e)), (3, .ref (pl (60 + 2 * m))), (4, .int (iI 1)), (5, .int (iI ((c j).1 - (e - p) + ((y).1))))] [.ref (pl (60 + 2 * j)), .int (iI 0), .ref (pl (61 + 2 * m))] _ _ _ _
            refine pm_i_get pm_a86_93 rfl (cg_o hj) rfl ?_
            show pm_E _ _ _ 96 [(0, .ref (pl (60 + 2 * j))), (1, .int (iI p)), (2, .int (iI e)), (3, .ref (pl (60 + 2 * m))), (4, .int (iI 1)), (5, .int (iI ((c j).1 - (e - p) + ((y).1))))] [.ref (pl (61 + 2 * j)), .int (iI 0), .ref (pl (61 + 2 * m))] _ _ _ _
            refine pm_e_sim pm_a86_96 rfl ?_
            show pm_E _ _ _ 97 [(0, .ref (pl (60 + 2 * j))), (1, .int (iI p)), (2, .int (iI e)), (3, .ref (pl (60 + 2 * m))), (4, .int (iI 1)), (5, .int (iI ((c j).1 - (e - p) + ((y).1))))] [.int (iI p), .ref (pl (61 + 2 * j)), .int (iI 0), .ref (pl (61 + 2 * m))] _ _ _ _
            refine pm_e_sim pm_a86_97 rfl ?_
            show pm_E _ _ _ 98 [(0, .ref (pl (60 + 2 * j))), (1, .int (iI p)), (2, .int (iI e)), (3, .ref (pl (60 + 2 * m))), (4, .int (iI 1)), (5, .int (iI ((c j).1 - (e - p) + ((y).1))))] [.ref (pl (60 + 2 * m)), .int (iI p), .ref (pl (61 + 2 * j)), .int (iI 0), .ref (pl (61 + 2 * m))] _ _ _ _
            refine pm_i_get pm_a86_98 rfl (cg_o hm) rfl ?_
            refine pm_e_top (y := iI ((y).1)) (congrArg (fun z : cdt => iI z.1) ((updC_n (by omega)).trans hy)) ?_
            show pm_E _ _ _ 101 [(0, .ref (pl (60 + 2 * j))), (1, .int (iI p)), (2, .int (iI e)), (3, .ref (pl (60 + 2 * m))), (4, .int (iI 1)), (5, .int (iI ((c j).1 - (e - p) + ((y).1))))] [.int (iI ((y).1)), .int (iI p), .ref (pl (61 + 2 * j)), .int (iI 0), .ref (pl (61 + 2 * m))] _ _ _ _
            refine pm_i_cpy pm_a86_101 rfl (Nat.le_of_ble_eq_true rfl) (cg_a hW hm) (cg_a hW hj) ⟨by omega, by omega⟩ ⟨by omega, by omega⟩ ⟨by omega, by omega⟩ (by omega) (by omega) (by omega) (by omega) (by omega) (cw_ca hW hj _) ?_
            show pm_E _ _ _ 104 [(0, .ref (pl (60 + 2 * j))), (1, .int (iI p)), (2, .int (iI e)), (3, .ref (pl (60 + 2 * m))), (4, .int (iI 1)), (5, .int (iI ((c j).1 - (e - p) + ((y).1))))] [] _ _ _ _
            refine pm_e_sim pm_a86_104 rfl ?_
            show pm_E _ _ _ 105 [(0, .ref (pl (60 + 2 * j))), (1, .int (iI p)), (2, .int (iI e)), (3, .ref (pl (60 + 2 * m))), (4, .int (iI 1)), (5, .int (iI ((c j).1 - (e - p) + ((y).1))))] [.ref (pl (60 + 2 * j))] _ _ _ _
            refine pm_e_sim pm_a86_105 rfl ?_
            show pm_E _ _ _ 107 [(0, .ref (pl (60 + 2 * j))), (1, .int (iI p)), (2, .int (iI e)), (3, .ref (pl (60 + 2 * m))), (4, .int (iI 1)), (5, .int (iI ((c j).1 - (e - p) + ((y).1))))] [.int (iI ((c j).1 - (e - p) + ((y).1))), .ref (pl (60 + 2 * j))] _ _ _ _
            refine pm_i_put pm_a86_107 rfl (cg_o hj) rfl (Nat.le_of_ble_eq_true rfl) (Or.inl rfl) (cw_len hW hj ((c j).1 - (e - p) + ((y).1))) ?_
            show pm_E _ _ _ 110 [(0, .ref (pl (60 + 2 * j))), (1, .int (iI p)), (2, .int (iI e)), (3, .ref (pl (60 + 2 * m))), (4, .int (iI 1)), (5, .int (iI ((c j).1 - (e - p) + ((y).1))))] [] _ _ _ _
            refine pm_e_sim pm_a86_110 rfl ?_
            refine pm_e_top (y := iI 1) (by decide +kernel) ?_
            show pm_E _ _ _ 111 [(0, .ref (pl (60 + 2 * j))), (1, .int (iI p)), (2, .int (iI e)), (3, .ref (pl (60 + 2 * m))), (4, .int (iI 1)), (5, .int (iI ((c j).1 - (e - p) + ((y).1))))] [.int (iI 1)] _ _ _ _
            refine pm_e_ret pm_a86_111 rfl rfl rfl rfl rfl rfl rfl rfl ?_
            have hq1 : y.1 = lp.length ∧ rg y.2.2 lp.length 0 = lp := by
              rcases hl with ⟨z1, z2, z3, z4⟩ | ⟨z1, z2⟩
              · exact ⟨z3, z4⟩
              · omega
            refine pm_q_heap (show _ = ch n kd pl s a (updC c j ((c j).1 - (e - p) + y.1, (c j).2.1, cyI y.2.2 (cyI (c j).2.2 (c j).2.2 e (p + y.1) ((c j).1 - e)) 0 p y.1)) M from by simp only [updC_s, updC_at, updC_n (Ne.symm hjm), hy]) ?_
            have hlen : ((rg (c j).2.2 p.toNat 0 ++ lp ++ rg (c j).2.2 ((c j).1 - e).toNat e).length : Int) = (c j).1 - (e - p) + y.1 := by rw [List.length_append, List.length_append, rg_len, rg_len]; omega
            refine k1 (by omega) _ ⟨⟨by show 0 ≤ (c j).1 - (e - p) + y.1; omega, by show (c j).1 - (e - p) + y.1 ≤ rm j; omega, hoj.2.2.1, cyI_in hom.2.2.2 (cyI_in hoj.2.2.2 hoj.2.2.2)⟩, Or.inl ⟨by omega, hov, hlen.symm, cy2 (by omega) (by omega) (by omega) hq1.2 hq1.1⟩⟩
          · skip
            show pm_E _ _ _ 61 [(0, .ref (pl (60 + 2 * j))), (1, .int (iI p)), (2, .int (iI e)), (3, .ref (pl (60 + 2 * m))), (4, .int (iI 1)), (5, .int (iI ((c j).1 - (e - p) + ((y).1))))] [] _ _ _ _
            refine pm_e_sim pm_a86_61 rfl ?_
            refine pm_e_top (y := iI 0) (by decide +kernel) ?_
            show pm_E _ _ _ 62 [(0, .ref (pl (60 + 2 * j))), (1, .int (iI p)), (2, .int (iI e)), (3, .ref (pl (60 + 2 * m))), (4, .int (iI 1)), (5, .int (iI ((c j).1 - (e - p) + ((y).1))))] [.int (iI 0)] _ _ _ _
            refine pm_e_ret pm_a86_62 rfl rfl rfl rfl rfl rfl rfl rfl ?_
            refine k0 ?_
            rw [List.length_append, List.length_append, rg_len, rg_len]
            rcases hl with ⟨z1, z2, z3, z4⟩ | ⟨z1, z2⟩ <;> omega
set_option maxHeartbeats 4000000 in
set_option maxRecDepth 100000 in
theorem C_endFrom_l {d n : Nat} {kd pl : Nat → Nat} {s : Nat → Int} {a : Nat → Int → Int} {c : Nat → cdt} {M : List va_E} {Q : Option Value → List va_E → Nat → Nat → Prop} {j : Nat} {x e : Int} (hW : wf n kd pl) (hj : j < 38 ∧ al n kd pl (60 + 2 * j)) (h0 : 0 ≤ (c j).1) (h1 : (c j).1 ≤ rm j) (hin : ∀ i, in32 ((c j).2.2 i)) (he : e ≤ (c j).1) (k : Q (some (.int (iI e))) (ch n kd pl s a c M) 0 0) : ∀ (f : Nat) (q i : Int), 0 ≤ i → (0 ≤ q ∧ q ≤ 1 + i) → i + f ≤ e → sc (c j).2.2 f q i = some e → pm_E none (d + 1) pm_mm81 4 [(0, .ref (pl (60 + 2 * j))), (1, .int (iI x)), (2, .int (iI q)), (3, .int (iI i))] [] (ch n kd pl s a c M) 0 0 Q := by
  intro f
  induction f with
  | zero =>
    intro q i hi hq hie hs
    have hqz := sc_none hs
    have rb := rm_b j
    refine pm_e_sim pm_a81_4 rfl ?_
    show pm_E _ _ _ 5 [(0, .ref (pl (60 + 2 * j))), (1, .int (iI x)), (2, .int (iI q)), (3, .int (iI i))] [.int (iI q)] _ _ _ _
    refine pm_i_le (t := 49) pm_a81_5 rfl ⟨by omega, by omega⟩ (fun h_1 => ?_) (fun h_1 => ?_)
    · skip
      show pm_E _ _ _ 49 [(0, .ref (pl (60 + 2 * j))), (1, .int (iI x)), (2, .int (iI q)), (3, .int (iI i))] [] _ _ _ _
      refine pm_e_sim pm_a81_49 rfl ?_
      show pm_E _ _ _ 50 [(0, .ref (pl (60 + 2 * j))), (1, .int (iI x)), (2, .int (iI q)), (3, .int (iI i))] [.int (iI i)] _ _ _ _
      refine pm_e_ret pm_a81_50 rfl rfl rfl rfl rfl rfl rfl rfl ?_
      rw [sc_done hs (by omega)] at k
      exact k
    · skip
      exfalso; omega
  | succ f ih =>
    intro q i hi hq hie hs
    have hv := hin i
    have rb := rm_b j
    refine pm_e_sim pm_a81_4 rfl ?_
    show pm_E _ _ _ 5 [(0, .ref (pl (60 + 2 * j))), (1, .int (iI x)), (2, .int (iI q)), (3, .int (iI i))] [.int (iI q)] _ _ _ _
    refine pm_i_le (t := 49) pm_a81_5 rfl ⟨by omega, by omega⟩ (fun h_1 => ?_) (fun h_1 => ?_)
    · skip
      show pm_E _ _ _ 49 [(0, .ref (pl (60 + 2 * j))), (1, .int (iI x)), (2, .int (iI q)), (3, .int (iI i))] [] _ _ _ _
      refine pm_e_sim pm_a81_49 rfl ?_
      show pm_E _ _ _ 50 [(0, .ref (pl (60 + 2 * j))), (1, .int (iI x)), (2, .int (iI q)), (3, .int (iI i))] [.int (iI i)] _ _ _ _
      refine pm_e_ret pm_a81_50 rfl rfl rfl rfl rfl rfl rfl rfl ?_
      rw [sc_done hs (by omega)] at k
      exact k
    · skip
      show pm_E _ _ _ 8 [(0, .ref (pl (60 + 2 * j))), (1, .int (iI x)), (2, .int (iI q)), (3, .int (iI i))] [] _ _ _ _
      refine pm_e_sim pm_a81_8 rfl ?_
      show pm_E _ _ _ 9 [(0, .ref (pl (60 + 2 * j))), (1, .int (iI x)), (2, .int (iI q)), (3, .int (iI i))] [.int (iI i)] _ _ _ _
      refine pm_e_sim pm_a81_9 rfl ?_
      show pm_E _ _ _ 10 [(0, .ref (pl (60 + 2 * j))), (1, .int (iI x)), (2, .int (iI q)), (3, .int (iI i))] [.ref (pl (60 + 2 * j)), .int (iI i)] _ _ _ _
      refine pm_i_get pm_a81_10 rfl (cg_o hj) rfl ?_
      show pm_E _ _ _ 13 [(0, .ref (pl (60 + 2 * j))), (1, .int (iI x)), (2, .int (iI q)), (3, .int (iI i))] [.int (iI ((c j).1)), .int (iI i)] _ _ _ _
      refine pm_c_ge (t := 49) pm_a81_13 rfl ⟨by omega, by omega⟩ ⟨by omega, by omega⟩ (fun h_2 => ?_) (fun h_2 => ?_)
      · skip
        exfalso; omega
      · skip
        show pm_E _ _ _ 16 [(0, .ref (pl (60 + 2 * j))), (1, .int (iI x)), (2, .int (iI q)), (3, .int (iI i))] [] _ _ _ _
        refine pm_e_sim pm_a81_16 rfl ?_
        show pm_E _ _ _ 17 [(0, .ref (pl (60 + 2 * j))), (1, .int (iI x)), (2, .int (iI q)), (3, .int (iI i))] [.ref (pl (60 + 2 * j))] _ _ _ _
        refine pm_e_sim pm_a81_17 rfl ?_
        show pm_E _ _ _ 18 [(0, .ref (pl (60 + 2 * j))), (1, .int (iI x)), (2, .int (iI q)), (3, .int (iI i))] [.int (iI i), .ref (pl (60 + 2 * j))] _ _ _ _
        refine pm_i_callv (k := (pl (60 + 2 * j))) (T2 := pm_mm47) pm_a81_18 rfl rfl rfl (cg_o hj) ⟨Nat.le_of_ble_eq_true rfl, Nat.le_of_ble_eq_true rfl, rfl, by decide +kernel⟩ ?_
        show pm_E none _ _ 0 [(0, .ref (pl (60 + 2 * j))), (1, .int (iI i))] [] _ _ _ _
        refine C_at hW hj rfl h0 h1 ⟨by omega, by omega⟩ ?_
        rw [atI_y (by omega) (by omega)]
        show pm_E _ _ _ 21 [(0, .ref (pl (60 + 2 * j))), (1, .int (iI x)), (2, .int (iI q)), (3, .int (iI i))] [.int (iI ((c j).2.2 i))] _ _ _ _
        refine pm_e_sim pm_a81_21 rfl ?_
        show pm_E _ _ _ 23 [(0, .ref (pl (60 + 2 * j))), (1, .int (iI x)), (2, .int (iI q)), (3, .int (iI i)), (4, .int (iI ((c j).2.2 i)))] [] _ _ _ _
        refine pm_e_sim pm_a81_23 rfl ?_
        show pm_E _ _ _ 25 [(0, .ref (pl (60 + 2 * j))), (1, .int (iI x)), (2, .int (iI q)), (3, .int (iI i)), (4, .int (iI ((c j).2.2 i)))] [.int (iI ((c j).2.2 i))] _ _ _ _
        refine pm_i_ne (t := 34) pm_a81_25 rfl ⟨by omega, by omega⟩ (fun h_3 => ?_) (fun h_3 => ?_)
        · skip
          show pm_E _ _ _ 34 [(0, .ref (pl (60 + 2 * j))), (1, .int (iI x)), (2, .int (iI q)), (3, .int (iI i)), (4, .int (iI ((c j).2.2 i)))] [] _ _ _ _
          refine pm_e_sim pm_a81_34 rfl ?_
          show pm_E _ _ _ 36 [(0, .ref (pl (60 + 2 * j))), (1, .int (iI x)), (2, .int (iI q)), (3, .int (iI i)), (4, .int (iI ((c j).2.2 i)))] [.int (iI ((c j).2.2 i))] _ _ _ _
          refine pm_e_sim pm_a81_36 rfl ?_
          refine pm_e_top (y := iI 1) (by decide +kernel) ?_
          show pm_E _ _ _ 37 [(0, .ref (pl (60 + 2 * j))), (1, .int (iI x)), (2, .int (iI q)), (3, .int (iI i)), (4, .int (iI ((c j).2.2 i)))] [.int (iI 1), .int (iI ((c j).2.2 i))] _ _ _ _
          refine pm_c_eq (t := 43) pm_a81_37 rfl ⟨by omega, by omega⟩ ⟨by omega, by omega⟩ (fun h_4 => ?_) (fun h_4 => ?_)
          · skip
            show pm_E _ _ _ 43 [(0, .ref (pl (60 + 2 * j))), (1, .int (iI x)), (2, .int (iI q)), (3, .int (iI i)), (4, .int (iI ((c j).2.2 i)))] [] _ _ _ _
            refine pm_e_inc (y := iI (i + 1)) pm_a81_43 rfl (iI_add _ _) (by decide +kernel) rfl ?_
            show pm_E _ _ _ 46 [(0, .ref (pl (60 + 2 * j))), (1, .int (iI x)), (2, .int (iI q)), (3, .int (iI (i + 1))), (4, .int (iI ((c j).2.2 i)))] [] _ _ _ _
            refine pm_e_goto pm_a81_46 rfl ?_
            show pm_E _ _ _ 4 [(0, .ref (pl (60 + 2 * j))), (1, .int (iI x)), (2, .int (iI q)), (3, .int (iI (i + 1))), (4, .int (iI ((c j).2.2 i)))] [] _ _ _ _
            show pm_E _ _ _ 4 ([(0, .ref (pl (60 + 2 * j))), (1, .int (iI x)), (2, .int (iI q)), (3, .int (iI (i + 1)))] ++ [(4, .int (iI ((c j).2.2 i)))]) [] _ _ _ _
            refine pm_e_more [(4, .int (iI ((c j).2.2 i)))] (show ([0, 1, 2, 3, 4] : List Nat).Nodup from by decide) ?_
            refine ih q (i + 1) (by omega) (by omega) (by omega) ?_
            have := sc_step hs (by omega) (dlt_1 (by omega)); rw [show q + 0 = q by omega] at this; exact this
          · skip
            show pm_E _ _ _ 40 [(0, .ref (pl (60 + 2 * j))), (1, .int (iI x)), (2, .int (iI q)), (3, .int (iI i)), (4, .int (iI ((c j).2.2 i)))] [] _ _ _ _
            refine pm_e_inc (y := iI (q + (-1))) pm_a81_40 rfl (iI_add _ _) (by decide +kernel) rfl ?_
            show pm_E _ _ _ 43 [(0, .ref (pl (60 + 2 * j))), (1, .int (iI x)), (2, .int (iI (q + (-1)))), (3, .int (iI i)), (4, .int (iI ((c j).2.2 i)))] [] _ _ _ _
            refine pm_e_inc (y := iI (i + 1)) pm_a81_43 rfl (iI_add _ _) (by decide +kernel) rfl ?_
            show pm_E _ _ _ 46 [(0, .ref (pl (60 + 2 * j))), (1, .int (iI x)), (2, .int (iI (q + (-1)))), (3, .int (iI (i + 1))), (4, .int (iI ((c j).2.2 i)))] [] _ _ _ _
            refine pm_e_goto pm_a81_46 rfl ?_
            show pm_E _ _ _ 4 [(0, .ref (pl (60 + 2 * j))), (1, .int (iI x)), (2, .int (iI (q + (-1)))), (3, .int (iI (i + 1))), (4, .int (iI ((c j).2.2 i)))] [] _ _ _ _
            show pm_E _ _ _ 4 ([(0, .ref (pl (60 + 2 * j))), (1, .int (iI x)), (2, .int (iI (q + (-1)))), (3, .int (iI (i + 1)))] ++ [(4, .int (iI ((c j).2.2 i)))]) [] _ _ _ _
            refine pm_e_more [(4, .int (iI ((c j).2.2 i)))] (show ([0, 1, 2, 3, 4] : List Nat).Nodup from by decide) ?_
            refine ih (q + (-1)) (i + 1) (by omega) (by omega) (by omega) ?_
            exact sc_step hs (by omega) (dlt_2 (by omega) (by omega))
        · skip
          show pm_E _ _ _ 28 [(0, .ref (pl (60 + 2 * j))), (1, .int (iI x)), (2, .int (iI q)), (3, .int (iI i)), (4, .int (iI ((c j).2.2 i)))] [] _ _ _ _
          refine pm_e_inc (y := iI (q + 1)) pm_a81_28 rfl (iI_add _ _) (by decide +kernel) rfl ?_
          show pm_E _ _ _ 31 [(0, .ref (pl (60 + 2 * j))), (1, .int (iI x)), (2, .int (iI (q + 1))), (3, .int (iI i)), (4, .int (iI ((c j).2.2 i)))] [] _ _ _ _
          refine pm_e_goto pm_a81_31 rfl ?_
          show pm_E _ _ _ 43 [(0, .ref (pl (60 + 2 * j))), (1, .int (iI x)), (2, .int (iI (q + 1))), (3, .int (iI i)), (4, .int (iI ((c j).2.2 i)))] [] _ _ _ _
          refine pm_e_inc (y := iI (i + 1)) pm_a81_43 rfl (iI_add _ _) (by decide +kernel) rfl ?_
          show pm_E _ _ _ 46 [(0, .ref (pl (60 + 2 * j))), (1, .int (iI x)), (2, .int (iI (q + 1))), (3, .int (iI (i + 1))), (4, .int (iI ((c j).2.2 i)))] [] _ _ _ _
          refine pm_e_goto pm_a81_46 rfl ?_
          show pm_E _ _ _ 4 [(0, .ref (pl (60 + 2 * j))), (1, .int (iI x)), (2, .int (iI (q + 1))), (3, .int (iI (i + 1))), (4, .int (iI ((c j).2.2 i)))] [] _ _ _ _
          show pm_E _ _ _ 4 ([(0, .ref (pl (60 + 2 * j))), (1, .int (iI x)), (2, .int (iI (q + 1))), (3, .int (iI (i + 1)))] ++ [(4, .int (iI ((c j).2.2 i)))]) [] _ _ _ _
          refine pm_e_more [(4, .int (iI ((c j).2.2 i)))] (show ([0, 1, 2, 3, 4] : List Nat).Nodup from by decide) ?_
          refine ih (q + 1) (i + 1) (by omega) (by omega) (by omega) ?_
          exact sc_step hs (by omega) (dlt_0 (by omega))
set_option maxHeartbeats 4000000 in
set_option maxRecDepth 100000 in
theorem C_endFrom {d n : Nat} {kd pl : Nat → Nat} {s : Nat → Int} {a : Nat → Int → Int} {c : Nat → cdt} {M : List va_E} {Q : Option Value → List va_E → Nat → Nat → Prop} {j : Nat} {x e k0 : Int} {f : Nat} {y : cdt} (hW : wf n kd pl) (hj : j < 38 ∧ al n kd pl (60 + 2 * j)) (hy : c j = y) (hok : okx (rm j) y) (ht : tm y.2.2 f k0 x e) (hx : 0 ≤ x) (he : e ≤ y.1) (k : Q (some (.int (iI e))) (ch n kd pl s a c M) 0 0) : pm_E none (d + 1) pm_mm81 0 [(0, .ref (pl (60 + 2 * j))), (1, .int (iI x))] [] (ch n kd pl s a c M) 0 0 Q := by
  subst hy
  obtain ⟨h0, h1, _, hin⟩ := hok
  have rb := rm_b j
  refine pm_e_sim pm_a81_0 rfl ?_
  refine pm_e_top (y := iI 1) (by decide +kernel) ?_
  show pm_E _ _ _ 1 [(0, .ref (pl (60 + 2 * j))), (1, .int (iI x))] [.int (iI 1)] _ _ _ _
  refine pm_e_sim pm_a81_1 rfl ?_
  show pm_E _ _ _ 2 [(0, .ref (pl (60 + 2 * j))), (1, .int (iI x)), (2, .int (iI 1))] [] _ _ _ _
  refine pm_e_sim pm_a81_2 rfl ?_
  show pm_E _ _ _ 3 [(0, .ref (pl (60 + 2 * j))), (1, .int (iI x)), (2, .int (iI 1))] [.int (iI x)] _ _ _ _
  refine pm_e_sim pm_a81_3 rfl ?_
  show pm_E _ _ _ 4 [(0, .ref (pl (60 + 2 * j))), (1, .int (iI x)), (2, .int (iI 1)), (3, .int (iI x))] [] _ _ _ _
  have lt := tm_lt ht
  exact C_endFrom_l hW hj h0 h1 hin (by omega) k (e - x).toNat 1 x (by omega) (by omega) (by omega) (tm_end ht (Nat.le_refl _))
