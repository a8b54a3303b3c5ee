/-! THE CLASS: Code -/
set_option maxHeartbeats 4000000 in
set_option maxRecDepth 100000 in
theorem C_at {d n : Nat} {kd pl : Nat → Nat} {s : Nat → Int} {a : Nat → Int → Int} {c : Nat → cdt} {M : List va_E} {Q : Option Value → List va_E → Nat → Nat → Prop} {j : Nat} {i : Int} {y : cdt} (hW : wf n kd pl) (hj : j < 38 ∧ al n kd pl (60 + 2 * j)) (hy : c j = y) (h0 : 0 ≤ y.1) (h1 : y.1 ≤ rm j) (hi : in32 i) (k : Q (some (.int (iI (atI y i)))) (ch n kd pl s a c M) 0 0) : pm_E none d pm_mm47 0 [(0, .ref (pl (60 + 2 * j))), (1, .int (iI i))] [] (ch n kd pl s a c M) 0 0 Q := by
  subst hy
  have rb := rm_b j
  refine pm_e_sim pm_a47_0 rfl ?_
  show pm_E _ _ _ 1 [(0, .ref (pl (60 + 2 * j))), (1, .int (iI i))] [.int (iI i)] _ _ _ _
  refine pm_i_lt (t := 30) pm_a47_1 rfl ⟨by omega, by omega⟩ (fun h_1 => ?_) (fun h_1 => ?_)
  · skip
    show pm_E _ _ _ 30 [(0, .ref (pl (60 + 2 * j))), (1, .int (iI i))] [] _ _ _ _
    refine pm_e_sim pm_a47_30 rfl ?_
    refine pm_e_top (y := iI (-1)) (by decide +kernel) ?_
    show pm_E _ _ _ 31 [(0, .ref (pl (60 + 2 * j))), (1, .int (iI i))] [.int (iI (-1))] _ _ _ _
    refine pm_e_ret pm_a47_31 rfl rfl rfl rfl rfl rfl rfl rfl ?_
    rw [atI_n (by omega)] at k
    exact k
  · skip
    show pm_E _ _ _ 4 [(0, .ref (pl (60 + 2 * j))), (1, .int (iI i))] [] _ _ _ _
    refine pm_e_sim pm_a47_4 rfl ?_
    show pm_E _ _ _ 5 [(0, .ref (pl (60 + 2 * j))), (1, .int (iI i))] [.int (iI i)] _ _ _ _
    refine pm_e_sim pm_a47_5 rfl ?_
    show pm_E _ _ _ 6 [(0, .ref (pl (60 + 2 * j))), (1, .int (iI i))] [.ref (pl (60 + 2 * j)), .int (iI i)] _ _ _ _
    refine pm_i_get pm_a47_6 rfl (cg_o hj) rfl ?_
    show pm_E _ _ _ 9 [(0, .ref (pl (60 + 2 * j))), (1, .int (iI i))] [.int (iI ((c j).1)), .int (iI i)] _ _ _ _
    refine pm_c_ge (t := 30) pm_a47_9 rfl ⟨by omega, by omega⟩ ⟨by omega, by omega⟩ (fun h_2 => ?_) (fun h_2 => ?_)
    · skip
      show pm_E _ _ _ 30 [(0, .ref (pl (60 + 2 * j))), (1, .int (iI i))] [] _ _ _ _
      refine pm_e_sim pm_a47_30 rfl ?_
      refine pm_e_top (y := iI (-1)) (by decide +kernel) ?_
      show pm_E _ _ _ 31 [(0, .ref (pl (60 + 2 * j))), (1, .int (iI i))] [.int (iI (-1))] _ _ _ _
      refine pm_e_ret pm_a47_31 rfl rfl rfl rfl rfl rfl rfl rfl ?_
      rw [atI_n (by omega)] at k
      exact k
    · skip
      show pm_E _ _ _ 12 [(0, .ref (pl (60 + 2 * j))), (1, .int (iI i))] [] _ _ _ _
      refine pm_e_sim pm_a47_12 rfl ?_
      show pm_E _ _ _ 13 [(0, .ref (pl (60 + 2 * j))), (1, .int (iI i))] [.int (iI i)] _ _ _ _
      refine pm_e_sim pm_a47_13 rfl ?_
      show pm_E _ _ _ 14 [(0, .ref (pl (60 + 2 * j))), (1, .int (iI i))] [.ref (pl (60 + 2 * j)), .int (iI i)] _ _ _ _
      refine pm_i_get pm_a47_14 rfl (cg_o hj) rfl ?_
      show pm_E _ _ _ 17 [(0, .ref (pl (60 + 2 * j))), (1, .int (iI i))] [.ref (pl (61 + 2 * j)), .int (iI i)] _ _ _ _
      refine pm_i_aln pm_a47_17 (cg_a hW hj) ?_
      show pm_E _ _ _ 18 [(0, .ref (pl (60 + 2 * j))), (1, .int (iI i))] [.int (iI (rm j : Int)), .int (iI i)] _ _ _ _
      refine pm_c_ge (t := 30) pm_a47_18 rfl ⟨by omega, by omega⟩ ⟨by omega, by omega⟩ (fun h_3 => ?_) (fun h_3 => ?_)
      · skip
        show pm_E _ _ _ 30 [(0, .ref (pl (60 + 2 * j))), (1, .int (iI i))] [] _ _ _ _
        refine pm_e_sim pm_a47_30 rfl ?_
        refine pm_e_top (y := iI (-1)) (by decide +kernel) ?_
        show pm_E _ _ _ 31 [(0, .ref (pl (60 + 2 * j))), (1, .int (iI i))] [.int (iI (-1))] _ _ _ _
        refine pm_e_ret pm_a47_31 rfl rfl rfl rfl rfl rfl rfl rfl ?_
        rw [atI_n (by omega)] at k
        exact k
      · skip
        show pm_E _ _ _ 21 [(0, .ref (pl (60 + 2 * j))), (1, .int (iI i))] [] _ _ _ _
        refine pm_e_sim pm_a47_21 rfl ?_
        show pm_E _ _ _ 22 [(0, .ref (pl (60 + 2 * j))), (1, .int (iI i))] [.ref (pl (60 + 2 * j))] _ _ _ _
        refine pm_i_get pm_a47_22 rfl (cg_o hj) rfl ?_
        show pm_E _ _ _ 25 [(0, .ref (pl (60 + 2 * j))), (1, .int (iI i))] [.ref (pl (61 + 2 * j))] _ _ _ _
        refine pm_e_sim pm_a47_25 rfl ?_
        show pm_E _ _ _ 26 [(0, .ref (pl (60 + 2 * j))), (1, .int (iI i))] [.int (iI i), .ref (pl (61 + 2 * j))] _ _ _ _
        refine pm_i_ald pm_a47_26 (cg_a hW hj) (by omega) (by omega) ⟨by omega, by omega⟩ ?_
        show pm_E _ _ _ 27 [(0, .ref (pl (60 + 2 * j))), (1, .int (iI i))] [.int (iI ((c j).2.2 (i)))] _ _ _ _
        refine pm_e_goto pm_a47_27 rfl ?_
        show pm_E _ _ _ 31 [(0, .ref (pl (60 + 2 * j))), (1, .int (iI i))] [.int (iI ((c j).2.2 (i)))] _ _ _ _
        refine pm_e_ret pm_a47_31 rfl rfl rfl rfl rfl rfl rfl rfl ?_
        rw [atI_y (by omega) (by omega)] at k
        exact k
set_option maxHeartbeats 4000000 in
set_option maxRecDepth 100000 in
theorem C_clear {d n : Nat} {kd pl : Nat → Nat} {s : Nat → Int} {a : Nat → Int → Int} {c : Nat → cdt} {M : List va_E} {Q : Option Value → List va_E → Nat → Nat → Prop} {j : Nat} (hW : wf n kd pl) (hj : j < 38 ∧ al n kd pl (60 + 2 * j)) (ho : okx (rm j) (c j)) (k : ∀ x, md x (rm j) [] → Q none (ch n kd pl s a (updC c j x) M) 0 0) : pm_E none d pm_mm13 0 [(0, .ref (pl (60 + 2 * j)))] [] (ch n kd pl s a c M) 0 0 Q := by
  have rb := rm_b j
  refine pm_e_sim pm_a13_0 rfl ?_
  show pm_E _ _ _ 1 [(0, .ref (pl (60 + 2 * j)))] [.ref (pl (60 + 2 * j))] _ _ _ _
  refine pm_e_sim pm_a13_1 rfl ?_
  refine pm_e_top (y := iI 0) (by decide +kernel) ?_
  show pm_E _ _ _ 2 [(0, .ref (pl (60 + 2 * j)))] [.int (iI 0), .ref (pl (60 + 2 * j))] _ _ _ _
  refine pm_i_put pm_a13_2 rfl (cg_o hj) rfl (Nat.le_of_ble_eq_true rfl) (Or.inl rfl) (cw_len hW hj 0) ?_
  show pm_E _ _ _ 5 [(0, .ref (pl (60 + 2 * j)))] [] _ _ _ _
  refine pm_e_sim pm_a13_5 rfl ?_
  show pm_E _ _ _ 6 [(0, .ref (pl (60 + 2 * j)))] [.ref (pl (60 + 2 * j))] _ _ _ _
  refine pm_e_sim pm_a13_6 rfl ?_
  refine pm_e_top (y := iI 0) (by decide +kernel) ?_
  show pm_E _ _ _ 7 [(0, .ref (pl (60 + 2 * j)))] [.int (iI 0), .ref (pl (60 + 2 * j))] _ _ _ _
  refine pm_i_put pm_a13_7 rfl (cg_o hj) (by decide +kernel) (Nat.le_of_ble_eq_true rfl) (Or.inl rfl) (cw_ov hW hj 0) ?_
  show pm_E _ _ _ 10 [(0, .ref (pl (60 + 2 * j)))] [] _ _ _ _
  refine pm_e_ret pm_a13_10 rfl rfl rfl rfl rfl rfl rfl rfl ?_
  refine pm_q_heap (show _ = ch n kd pl s a (updC c j (0, 0, (c j).2.2)) M from by simp only [updC_s, updC_at]) ?_
  exact k _ ⟨⟨Int.le_refl 0, by show (0 : Int) ≤ rm j; omega, Or.inl rfl, ho.2.2.2⟩, Or.inl ⟨Nat.zero_le _, rfl, rfl, rfl⟩⟩
set_option maxHeartbeats 4000000 in
set_option maxRecDepth 100000 in
theorem C_put {d n : Nat} {kd pl : Nat → Nat} {s : Nat → Int} {a : Nat → Int → Int} {c : Nat → cdt} {M : List va_E} {Q : Option Value → List va_E → Nat → Nat → Prop} {j : Nat} {x : Int} {l : List Int} (hW : wf n kd pl) (hj : j < 38 ∧ al n kd pl (60 + 2 * j)) (hl0 : md (c j) (rm j) l) (hx : in32 x) (k : ∀ y, md y (rm j) (l ++ [x]) → Q none (ch n kd pl s a (updC c j y) M) 0 0) : pm_E none d pm_mm40 0 [(0, .ref (pl (60 + 2 * j))), (1, .int (iI x))] [] (ch n kd pl s a c M) 0 0 Q := by
  obtain ⟨ho, hl⟩ := hl0
  obtain ⟨o1, o2, o3, o4⟩ := id ho
  have rb := rm_b j
  refine pm_e_sim pm_a40_0 rfl ?_
  show pm_E _ _ _ 1 [(0, .ref (pl (60 + 2 * j))), (1, .int (iI x))] [.ref (pl (60 + 2 * j))] _ _ _ _
  refine pm_i_get pm_a40_1 rfl (cg_o hj) rfl ?_
  show pm_E _ _ _ 4 [(0, .ref (pl (60 + 2 * j))), (1, .int (iI x))] [.int (iI ((c j).1))] _ _ _ _
  refine pm_i_lt (t := 42) pm_a40_4 rfl ⟨by omega, by omega⟩ (fun h_1 => ?_) (fun h_1 => ?_)
  · skip
    show pm_E _ _ _ 42 [(0, .ref (pl (60 + 2 * j))), (1, .int (iI x))] [] _ _ _ _
    refine pm_e_sim pm_a40_42 rfl ?_
    show pm_E _ _ _ 43 [(0, .ref (pl (60 + 2 * j))), (1, .int (iI x))] [.ref (pl (60 + 2 * j))] _ _ _ _
    refine pm_e_sim pm_a40_43 rfl ?_
    refine pm_e_top (y := iI 1) (by decide +kernel) ?_
    show pm_E _ _ _ 44 [(0, .ref (pl (60 + 2 * j))), (1, .int (iI x))] [.int (iI 1), .ref (pl (60 + 2 * j))] _ _ _ _
    refine pm_i_put pm_a40_44 rfl (cg_o hj) (by decide +kernel) (Nat.le_of_ble_eq_true rfl) (Or.inl rfl) (cw_ov hW hj 1) ?_
    show pm_E _ _ _ 47 [(0, .ref (pl (60 + 2 * j))), (1, .int (iI x))] [] _ _ _ _
    refine pm_e_ret pm_a40_47 rfl rfl rfl rfl rfl rfl rfl rfl ?_
    refine k _ ⟨⟨ho.1, ho.2.1, Or.inr rfl, ho.2.2.2⟩, Or.inr ⟨?_, rfl⟩⟩
    rw [List.length_append, List.length_singleton]
    rcases hl with ⟨z1, z2, z3, z4⟩ | ⟨z1, z2⟩ <;> omega
  · skip
    show pm_E _ _ _ 7 [(0, .ref (pl (60 + 2 * j))), (1, .int (iI x))] [] _ _ _ _
    refine pm_e_sim pm_a40_7 rfl ?_
    show pm_E _ _ _ 8 [(0, .ref (pl (60 + 2 * j))), (1, .int (iI x))] [.ref (pl (60 + 2 * j))] _ _ _ _
    refine pm_i_get pm_a40_8 rfl (cg_o hj) rfl ?_
    show pm_E _ _ _ 11 [(0, .ref (pl (60 + 2 * j))), (1, .int (iI x))] [.int (iI ((c j).1))] _ _ _ _
    refine pm_e_sim pm_a40_11 rfl ?_
    show pm_E _ _ _ 12 [(0, .ref (pl (60 + 2 * j))), (1, .int (iI x))] [.ref (pl (60 + 2 * j)), .int (iI ((c j).1))] _ _ _ _
    refine pm_i_get pm_a40_12 rfl (cg_o hj) rfl ?_
    show pm_E _ _ _ 15 [(0, .ref (pl (60 + 2 * j))), (1, .int (iI x))] [.ref (pl (61 + 2 * j)), .int (iI ((c j).1))] _ _ _ _
    refine pm_i_aln pm_a40_15 (cg_a hW hj) ?_
    show pm_E _ _ _ 16 [(0, .ref (pl (60 + 2 * j))), (1, .int (iI x))] [.int (iI (rm j : Int)), .int (iI ((c j).1))] _ _ _ _
    refine pm_c_ge (t := 42) pm_a40_16 rfl ⟨by omega, by omega⟩ ⟨by omega, by omega⟩ (fun h_2 => ?_) (fun h_2 => ?_)
    · skip
      show pm_E _ _ _ 42 [(0, .ref (pl (60 + 2 * j))), (1, .int (iI x))] [] _ _ _ _
      refine pm_e_sim pm_a40_42 rfl ?_
      show pm_E _ _ _ 43 [(0, .ref (pl (60 + 2 * j))), (1, .int (iI x))] [.ref (pl (60 + 2 * j))] _ _ _ _
      refine pm_e_sim pm_a40_43 rfl ?_
      refine pm_e_top (y := iI 1) (by decide +kernel) ?_
      show pm_E _ _ _ 44 [(0, .ref (pl (60 + 2 * j))), (1, .int (iI x))] [.int (iI 1), .ref (pl (60 + 2 * j))] _ _ _ _
      refine pm_i_put pm_a40_44 rfl (cg_o hj) (by decide +kernel) (Nat.le_of_ble_eq_true rfl) (Or.inl rfl) (cw_ov hW hj 1) ?_
      show pm_E _ _ _ 47 [(0, .ref (pl (60 + 2 * j))), (1, .int (iI x))] [] _ _ _ _
      refine pm_e_ret pm_a40_47 rfl rfl rfl rfl rfl rfl rfl rfl ?_
      refine k _ ⟨⟨ho.1, ho.2.1, Or.inr rfl, ho.2.2.2⟩, Or.inr ⟨?_, rfl⟩⟩
      rw [List.length_append, List.length_singleton]
      rcases hl with ⟨z1, z2, z3, z4⟩ | ⟨z1, z2⟩ <;> omega
    · skip
      show pm_E _ _ _ 19 [(0, .ref (pl (60 + 2 * j))), (1, .int (iI x))] [] _ _ _ _
      refine pm_e_sim pm_a40_19 rfl ?_
      show pm_E _ _ _ 20 [(0, .ref (pl (60 + 2 * j))), (1, .int (iI x))] [.ref (pl (60 + 2 * j))] _ _ _ _
      refine pm_i_get pm_a40_20 rfl (cg_o hj) rfl ?_
      show pm_E _ _ _ 23 [(0, .ref (pl (60 + 2 * j))), (1, .int (iI x))] [.ref (pl (61 + 2 * j))] _ _ _ _
      refine pm_e_sim pm_a40_23 rfl ?_
      show pm_E _ _ _ 24 [(0, .ref (pl (60 + 2 * j))), (1, .int (iI x))] [.ref (pl (60 + 2 * j)), .ref (pl (61 + 2 * j))] _ _ _ _
      refine pm_i_get pm_a40_24 rfl (cg_o hj) rfl ?_
      show pm_E _ _ _ 27 [(0, .ref (pl (60 + 2 * j))), (1, .int (iI x))] [.int (iI ((c j).1)), .ref (pl (61 + 2 * j))] _ _ _ _
      refine pm_e_sim pm_a40_27 rfl ?_
      show pm_E _ _ _ 28 [(0, .ref (pl (60 + 2 * j))), (1, .int (iI x))] [.int (iI x), .int (iI ((c j).1)), .ref (pl (61 + 2 * j))] _ _ _ _
      refine pm_i_ast pm_a40_28 (cg_a hW hj) (by omega) (by omega) ⟨by omega, by omega⟩ (cw_ca hW hj _) ?_
      show pm_E _ _ _ 29 [(0, .ref (pl (60 + 2 * j))), (1, .int (iI x))] [] _ _ _ _
      refine pm_e_sim pm_a40_29 rfl ?_
      show pm_E _ _ _ 30 [(0, .ref (pl (60 + 2 * j))), (1, .int (iI x))] [.ref (pl (60 + 2 * j))] _ _ _ _
      refine pm_e_sim pm_a40_30 rfl ?_
      show pm_E _ _ _ 31 [(0, .ref (pl (60 + 2 * j))), (1, .int (iI x))] [.ref (pl (60 + 2 * j)), .ref (pl (60 + 2 * j))] _ _ _ _
      refine pm_i_get pm_a40_31 rfl (cg_o hj) rfl ?_
      refine pm_e_top (y := iI ((((c j).1, (c j).2.1, updI (c j).2.2 ((c j).1) x)).1)) (congrArg (fun z : cdt => iI z.1) updC_at) ?_
      show pm_E _ _ _ 34 [(0, .ref (pl (60 + 2 * j))), (1, .int (iI x))] [.int (iI ((((c j).1, (c j).2.1, updI (c j).2.2 ((c j).1) x)).1)), .ref (pl (60 + 2 * j))] _ _ _ _
      refine pm_e_sim pm_a40_34 rfl ?_
      refine pm_e_top (y := iI 1) (by decide +kernel) ?_
      show pm_E _ _ _ 35 [(0, .ref (pl (60 + 2 * j))), (1, .int (iI x))] [.int (iI 1), .int (iI ((((c j).1, (c j).2.1, updI (c j).2.2 ((c j).1) x)).1)), .ref (pl (60 + 2 * j))] _ _ _ _
      refine pm_e_sim pm_a40_35 rfl ?_
      refine pm_e_top (y := iI ((((c j).1, (c j).2.1, updI (c j).2.2 ((c j).1) x)).1 + 1)) (iI_add _ _) ?_
      show pm_E _ _ _ 36 [(0, .ref (pl (60 + 2 * j))), (1, .int (iI x))] [.int (iI ((((c j).1, (c j).2.1, updI (c j).2.2 ((c j).1) x)).1 + 1)), .ref (pl (60 + 2 * j))] _ _ _ _
      refine pm_i_put pm_a40_36 rfl (cg_o hj) rfl (Nat.le_of_ble_eq_true rfl) (Or.inl rfl) (cw_len hW hj ((((c j).1, (c j).2.1, updI (c j).2.2 ((c j).1) x)).1 + 1)) ?_
      show pm_E _ _ _ 39 [(0, .ref (pl (60 + 2 * j))), (1, .int (iI x))] [] _ _ _ _
      refine pm_e_goto pm_a40_39 rfl ?_
      show pm_E _ _ _ 47 [(0, .ref (pl (60 + 2 * j))), (1, .int (iI x))] [] _ _ _ _
      refine pm_e_ret pm_a40_47 rfl rfl rfl rfl rfl rfl rfl rfl ?_
      refine pm_q_heap (show _ = ch n kd pl s a (updC c j ((c j).1 + 1, (c j).2.1, updI (c j).2.2 (c j).1 x)) M from by simp only [updC_s, updC_at]) ?_
      refine k _ ⟨⟨by show 0 ≤ (c j).1 + 1; omega, by show (c j).1 + 1 ≤ rm j; omega, ho.2.2.1, updI_in ho.2.2.2 hx⟩, ?_⟩
      rcases hl with ⟨z1, z2, z3, z4⟩ | ⟨z1, z2⟩
      · refine Or.inl ⟨by rw [List.length_append, List.length_singleton]; omega, z2, ?_, rg_ext z4 z3 x⟩
        show (c j).1 + 1 = _
        rw [List.length_append, List.length_singleton]; omega
      · exact Or.inr ⟨by rw [List.length_append, List.length_singleton]; omega, z2⟩
theorem cyI_in {f g : Int → Int} {sp dp n : Int} (hf : ∀ i, in32 (f i)) (hg : ∀ i, in32 (g i)) : ∀ i, in32 (cyI f g sp dp n i) := by
  intro i
  unfold cyI
  split
  · exact hf _
  · exact hg i
theorem cyI_app {f g : Int → Int} {p e : Int} {l : List Int} {n : Int} (hp : p ≤ e) (hg : rg g l.length 0 = l) (hn : n = l.length) : rg (cyI f g p n (e - p)) (l ++ rg f (e - p).toNat p).length 0 = l ++ rg f (e - p).toNat p := by
  subst hn
  rw [List.length_append, rg_len, rg_app]
  congr 1
  · rw [rg_eq (g := g) (fun j z y => by unfold cyI; rw [if_neg (by omega)])]; exact hg
  · have := rg_congr (g := f) (g' := cyI f g p (l.length : Int) (e - p)) (n := (e - p).toNat) (p := p) (o := (l.length : Int) - p) (fun j z y => by unfold cyI; rw [if_pos (by omega), show p + (j + ((l.length : Int) - p) - (l.length : Int)) = j by omega])
    rw [show p + ((l.length : Int) - p) = 0 + (l.length : Int) by omega] at this
    exact this
set_option maxHeartbeats 4000000 in
set_option maxRecDepth 100000 in
theorem C_putPart {d n : Nat} {kd pl : Nat → Nat} {s : Nat → Int} {a : Nat → Int → Int} {c : Nat → cdt} {M : List va_E} {Q : Option Value → List va_E → Nat → Nat → Prop} {j : Nat} {m : Nat} {p e : Int} {l : List Int} {y : cdt} (hW : wf n kd pl) (hj : j < 38 ∧ al n kd pl (60 + 2 * j)) (hm : m < 38 ∧ al n kd pl (60 + 2 * m)) (hy : c m = y) (hom : okx (rm m) y) (hl0 : md (c j) (rm j) l) (hp : 0 ≤ p) (hpe : p ≤ e) (he : e ≤ y.1) (k : ∀ x, md x (rm j) (l ++ rg y.2.2 (e - p).toNat p) → Q none (ch n kd pl s a (updC c j x) M) 0 0) : pm_E none d pm_mm59 0 [(0, .ref (pl (60 + 2 * j))), (1, .ref (pl (60 + 2 * m))), (2, .int (iI p)), (3, .int (iI e))] [] (ch n kd pl s a c M) 0 0 Q := by
  subst hy
  obtain ⟨ho, hl⟩ := hl0
  obtain ⟨o1, o2, o3, o4⟩ := id ho
  obtain ⟨q1, q2, q3, q4⟩ := id hom
  have rb := rm_b j
  have rb2 := rm_b m
  refine pm_e_sim pm_a59_0 rfl ?_
  show pm_E _ _ _ 1 [(0, .ref (pl (60 + 2 * j))), (1, .ref (pl (60 + 2 * m))), (2, .int (iI p)), (3, .int (iI e))] [.int (iI p)] _ _ _ _
  refine pm_i_lt (t := 21) pm_a59_1 rfl ⟨by omega, by omega⟩ (fun h_1 => ?_) (fun h_1 => ?_)
  · skip
    exfalso; omega
  · skip
    show pm_E _ _ _ 4 [(0, .ref (pl (60 + 2 * j))), (1, .ref (pl (60 + 2 * m))), (2, .int (iI p)), (3, .int (iI e))] [] _ _ _ _
    refine pm_e_sim pm_a59_4 rfl ?_
    show pm_E _ _ _ 5 [(0, .ref (pl (60 + 2 * j))), (1, .ref (pl (60 + 2 * m))), (2, .int (iI p)), (3, .int (iI e))] [.int (iI p)] _ _ _ _
    refine pm_e_sim pm_a59_5 rfl ?_
    show pm_E _ _ _ 6 [(0, .ref (pl (60 + 2 * j))), (1, .ref (pl (60 + 2 * m))), (2, .int (iI p)), (3, .int (iI e))] [.int (iI e), .int (iI p)] _ _ _ _
    refine pm_c_gt (t := 21) pm_a59_6 rfl ⟨by omega, by omega⟩ ⟨by omega, by omega⟩ (fun h_2 => ?_) (fun h_2 => ?_)
    · skip
      exfalso; omega
    · skip
      show pm_E _ _ _ 9 [(0, .ref (pl (60 + 2 * j))), (1, .ref (pl (60 + 2 * m))), (2, .int (iI p)), (3, .int (iI e))] [] _ _ _ _
      refine pm_e_sim pm_a59_9 rfl ?_
      show pm_E _ _ _ 10 [(0, .ref (pl (60 + 2 * j))), (1, .ref (pl (60 + 2 * m))), (2, .int (iI p)), (3, .int (iI e))] [.int (iI e)] _ _ _ _
      refine pm_e_sim pm_a59_10 rfl ?_
      show pm_E _ _ _ 11 [(0, .ref (pl (60 + 2 * j))), (1, .ref (pl (60 + 2 * m))), (2, .int (iI p)), (3, .int (iI e))] [.ref (pl (60 + 2 * m)), .int (iI e)] _ _ _ _
      refine pm_i_get pm_a59_11 rfl (cg_o hm) rfl ?_
      show pm_E _ _ _ 14 [(0, .ref (pl (60 + 2 * j))), (1, .ref (pl (60 + 2 * m))), (2, .int (iI p)), (3, .int (iI e))] [.int (iI ((c m).1)), .int (iI e)] _ _ _ _
      refine pm_c_gt (t := 21) pm_a59_14 rfl ⟨by omega, by omega⟩ ⟨by omega, by omega⟩ (fun h_3 => ?_) (fun h_3 => ?_)
      · skip
        exfalso; omega
      · skip
        show pm_E _ _ _ 17 [(0, .ref (pl (60 + 2 * j))), (1, .ref (pl (60 + 2 * m))), (2, .int (iI p)), (3, .int (iI e))] [] _ _ _ _
        refine pm_e_sim pm_a59_17 rfl ?_
        refine pm_e_top (y := iI 1) (by decide +kernel) ?_
        show pm_E _ _ _ 18 [(0, .ref (pl (60 + 2 * j))), (1, .ref (pl (60 + 2 * m))), (2, .int (iI p)), (3, .int (iI e))] [.int (iI 1)] _ _ _ _
        refine pm_e_goto pm_a59_18 rfl ?_
        show pm_E _ _ _ 22 [(0, .ref (pl (60 + 2 * j))), (1, .ref (pl (60 + 2 * m))), (2, .int (iI p)), (3, .int (iI e))] [.int (iI 1)] _ _ _ _
        refine pm_e_sim pm_a59_22 rfl ?_
        show pm_E _ _ _ 24 [(0, .ref (pl (60 + 2 * j))), (1, .ref (pl (60 + 2 * m))), (2, .int (iI p)), (3, .int (iI e)), (4, .int (iI 1))] [] _ _ _ _
        refine pm_e_sim pm_a59_24 rfl ?_
        show pm_E _ _ _ 26 [(0, .ref (pl (60 + 2 * j))), (1, .ref (pl (60 + 2 * m))), (2, .int (iI p)), (3, .int (iI e)), (4, .int (iI 1))] [.int (iI 1)] _ _ _ _
        refine pm_e_iff pm_a59_26 rfl (by decide +kernel) ?_
        show pm_E _ _ _ 29 [(0, .ref (pl (60 + 2 * j))), (1, .ref (pl (60 + 2 * m))), (2, .int (iI p)), (3, .int (iI e)), (4, .int (iI 1))] [] _ _ _ _
        refine pm_e_sim pm_a59_29 rfl ?_
        show pm_E _ _ _ 30 [(0, .ref (pl (60 + 2 * j))), (1, .ref (pl (60 + 2 * m))), (2, .int (iI p)), (3, .int (iI e)), (4, .int (iI 1))] [.int (iI e)] _ _ _ _
        refine pm_e_sim pm_a59_30 rfl ?_
        show pm_E _ _ _ 31 [(0, .ref (pl (60 + 2 * j))), (1, .ref (pl (60 + 2 * m))), (2, .int (iI p)), (3, .int (iI e)), (4, .int (iI 1))] [.int (iI p), .int (iI e)] _ _ _ _
        refine pm_e_sim pm_a59_31 rfl ?_
        refine pm_e_top (y := iI (e - p)) (iI_sub _ _) ?_
        show pm_E _ _ _ 32 [(0, .ref (pl (60 + 2 * j))), (1, .ref (pl (60 + 2 * m))), (2, .int (iI p)), (3, .int (iI e)), (4, .int (iI 1))] [.int (iI (e - p))] _ _ _ _
        refine pm_e_sim pm_a59_32 rfl ?_
        show pm_E _ _ _ 33 [(0, .ref (pl (60 + 2 * j))), (1, .ref (pl (60 + 2 * m))), (2, .int (iI p)), (3, .int (iI e)), (4, .int (iI 1))] [.ref (pl (60 + 2 * j)), .int (iI (e - p))] _ _ _ _
        refine pm_i_get pm_a59_33 rfl (cg_o hj) rfl ?_
        show pm_E _ _ _ 36 [(0, .ref (pl (60 + 2 * j))), (1, .ref (pl (60 + 2 * m))), (2, .int (iI p)), (3, .int (iI e)), (4, .int (iI 1))] [.ref (pl (61 + 2 * j)), .int (iI (e - p))] _ _ _ _
        refine pm_i_aln pm_a59_36 (cg_a hW hj) ?_
        show pm_E _ _ _ 37 [(0, .ref (pl (60 + 2 * j))), (1, .ref (pl (60 + 2 * m))), (2, .int (iI p)), (3, .int (iI e)), (4, .int (iI 1))] [.int (iI (rm j : Int)), .int (iI (e - p))] _ _ _ _
        refine pm_e_sim pm_a59_37 rfl ?_
        show pm_E _ _ _ 38 [(0, .ref (pl (60 + 2 * j))), (1, .ref (pl (60 + 2 * m))), (2, .int (iI p)), (3, .int (iI e)), (4, .int (iI 1))] [.ref (pl (60 + 2 * j)), .int (iI (rm j : Int)), .int (iI (e - p))] _ _ _ _
        refine pm_i_get pm_a59_38 rfl (cg_o hj) rfl ?_
        show pm_E _ _ _ 41 [(0, .ref (pl (60 + 2 * j))), (1, .ref (pl (60 + 2 * m))), (2, .int (iI p)), (3, .int (iI e)), (4, .int (iI 1))] [.int (iI ((c j).1)), .int (iI (rm j : Int)), .int (iI (e - p))] _ _ _ _
        refine pm_e_sim pm_a59_41 rfl ?_
        refine pm_e_top (y := iI ((rm j : Int) - ((c j).1))) (iI_sub _ _) ?_
        show pm_E _ _ _ 42 [(0, .ref (pl (60 + 2 * j))), (1, .ref (pl (60 + 2 * m))), (2, .int (iI p)), (3, .int (iI e)), (4, .int (iI 1))] [.int (iI ((rm j : Int) - ((c j).1))), .int (iI (e - p))] _ _ _ _
        refine pm_c_le (t := 51) pm_a59_42 rfl ⟨by omega, by omega⟩ ⟨by omega, by omega⟩ (fun h_4 => ?_) (fun h_4 => ?_)
        · skip
          show pm_E _ _ _ 51 [(0, .ref (pl (60 + 2 * j))), (1, .ref (pl (60 + 2 * m))), (2, .int (iI p)), (3, .int (iI e)), (4, .int (iI 1))] [] _ _ _ _
          refine pm_e_sim pm_a59_51 rfl ?_
          show pm_E _ _ _ 52 [(0, .ref (pl (60 + 2 * j))), (1, .ref (pl (60 + 2 * m))), (2, .int (iI p)), (3, .int (iI e)), (4, .int (iI 1))] [.ref (pl (60 + 2 * m))] _ _ _ _
          refine pm_i_get pm_a59_52 rfl (cg_o hm) rfl ?_
          show pm_E _ _ _ 55 [(0, .ref (pl (60 + 2 * j))), (1, .ref (pl (60 + 2 * m))), (2, .int (iI p)), (3, .int (iI e)), (4, .int (iI 1))] [.ref (pl (61 + 2 * m))] _ _ _ _
          refine pm_e_sim pm_a59_55 rfl ?_
          show pm_E _ _ _ 56 [(0, .ref (pl (60 + 2 * j))), (1, .ref (pl (60 + 2 * m))), (2, .int (iI p)), (3, .int (iI e)), (4, .int (iI 1))] [.int (iI p), .ref (pl (61 + 2 * m))] _ _ _ _
          refine pm_e_sim pm_a59_56 rfl ?_
          show pm_E _ _ _ 57 [(0, .ref (pl (60 + 2 * j))), (1, .ref (pl (60 + 2 * m))), (2, .int (iI p)), (3, .int (iI e)), (4, .int (iI 1))] [.ref (pl (60 + 2 * j)), .int (iI p), .ref (pl (61 + 2 * m))] _ _ _ _
          refine pm_i_get pm_a59_57 rfl (cg_o hj) rfl ?_
          show pm_E _ _ _ 60 [(0, .ref (pl (60 + 2 * j))), (1, .ref (pl (60 + 2 * m))), (2, .int (iI p)), (3, .int (iI e)), (4, .int (iI 1))] [.ref (pl (61 + 2 * j)), .int (iI p), .ref (pl (61 + 2 * m))] _ _ _ _
          refine pm_e_sim pm_a59_60 rfl ?_
          show pm_E _ _ _ 61 [(0, .ref (pl (60 + 2 * j))), (1, .ref (pl (60 + 2 * m))), (2, .int (iI p)), (3, .int (iI e)), (4, .int (iI 1))] [.ref (pl (60 + 2 * j)), .ref (pl (61 + 2 * j)), .int (iI p), .ref (pl (61 + 2 * m))] _ _ _ _
          refine pm_i_get pm_a59_61 rfl (cg_o hj) rfl ?_
          show pm_E _ _ _ 64 [(0, .ref (pl (60 + 2 * j))), (1, .ref (pl (60 + 2 * m))), (2, .int (iI p)), (3, .int (iI e)), (4, .int (iI 1))] [.int (iI ((c j).1)), .ref (pl (61 + 2 * j)), .int (iI p), .ref (pl (61 + 2 * m))] _ _ _ _
          refine pm_e_sim pm_a59_64 rfl ?_
          show pm_E _ _ _ 65 [(0, .ref (pl (60 + 2 * j))), (1, .ref (pl (60 + 2 * m))), (2, .int (iI p)), (3, .int (iI e)), (4, .int (iI 1))] [.int (iI e), .int (iI ((c j).1)), .ref (pl (61 + 2 * j)), .int (iI p), .ref (pl (61 + 2 * m))] _ _ _ _
          refine pm_e_sim pm_a59_65 rfl ?_
          show pm_E _ _ _ 66 [(0, .ref (pl (60 + 2 * j))), (1, .ref (pl (60 + 2 * m))), (2, .int (iI p)), (3, .int (iI e)), (4, .int (iI 1))] [.int (iI p), .int (iI e), .int (iI ((c j).1)), .ref (pl (61 + 2 * j)), .int (iI p), .ref (pl (61 + 2 * m))] _ _ _ _
          refine pm_e_sim pm_a59_66 rfl ?_
          refine pm_e_top (y := iI (e - p)) (iI_sub _ _) ?_
          show pm_E _ _ _ 67 [(0, .ref (pl (60 + 2 * j))), (1, .ref (pl (60 + 2 * m))), (2, .int (iI p)), (3, .int (iI e)), (4, .int (iI 1))] [.int (iI (e - p)), .int (iI ((c j).1)), .ref (pl (61 + 2 * j)), .int (iI p), .ref (pl (61 + 2 * m))] _ _ _ _
          refine pm_i_cpy pm_a59_67 rfl (Nat.le_of_ble_eq_true rfl) (cg_a hW hm) (cg_a hW hj) ⟨by omega, by omega⟩ ⟨by omega, by omega⟩ ⟨by omega, by omega⟩ (by omega) (by omega) (by omega) (by omega) (by omega) (cw_ca hW hj _) ?_
          show pm_E _ _ _ 70 [(0, .ref (pl (60 + 2 * j))), (1, .ref (pl (60 + 2 * m))), (2, .int (iI p)), (3, .int (iI e)), (4, .int (iI 1))] [] _ _ _ _
          refine pm_e_sim pm_a59_70 rfl ?_
          show pm_E _ _ _ 71 [(0, .ref (pl (60 + 2 * j))), (1, .ref (pl (60 + 2 * m))), (2, .int (iI p)), (3, .int (iI e)), (4, .int (iI 1))] [.ref (pl (60 + 2 * j))] _ _ _ _
          refine pm_e_sim pm_a59_71 rfl ?_
          show pm_E _ _ _ 72 [(0, .ref (pl (60 + 2 * j))), (1, .ref (pl (60 + 2 * m))), (2, .int (iI p)), (3, .int (iI e)), (4, .int (iI 1))] [.ref (pl (60 + 2 * j)), .ref (pl (60 + 2 * j))] _ _ _ _
          refine pm_i_get pm_a59_72 rfl (cg_o hj) rfl ?_
          refine pm_e_top (y := iI ((((c j).1, (c j).2.1, cyI (c m).2.2 (c j).2.2 (p) ((c j).1) (e - p))).1)) (congrArg (fun z : cdt => iI z.1) updC_at) ?_
          show pm_E _ _ _ 75 [(0, .ref (pl (60 + 2 * j))), (1, .ref (pl (60 + 2 * m))), (2, .int (iI p)), (3, .int (iI e)), (4, .int (iI 1))] [.int (iI ((((c j).1, (c j).2.1, cyI (c m).2.2 (c j).2.2 (p) ((c j).1) (e - p))).1)), .ref (pl (60 + 2 * j))] _ _ _ _
          refine pm_e_sim pm_a59_75 rfl ?_
          show pm_E _ _ _ 76 [(0, .ref (pl (60 + 2 * j))), (1, .ref (pl (60 + 2 * m))), (2, .int (iI p)), (3, .int (iI e)), (4, .int (iI 1))] [.int (iI e), .int (iI ((((c j).1, (c j).2.1, cyI (c m).2.2 (c j).2.2 (p) ((c j).1) (e - p))).1)), .ref (pl (60 + 2 * j))] _ _ _ _
          refine pm_e_sim pm_a59_76 rfl ?_
          show pm_E _ _ _ 77 [(0, .ref (pl (60 + 2 * j))), (1, .ref (pl (60 + 2 * m))), (2, .int (iI p)), (3, .int (iI e)), (4, .int (iI 1))] [.int (iI p), .int (iI e), .int (iI ((((c j).1, (c j).2.1, cyI (c m).2.2 (c j).2.2 (p) ((c j).1) (e - p))).1)), .ref (pl (60 + 2 * j))] _ _ _ _
          refine pm_e_sim pm_a59_77 rfl ?_
          refine pm_e_top (y := iI (e - p)) (iI_sub _ _) ?_
          show pm_E _ _ _ 78 [(0, .ref (pl (60 + 2 * j))), (1, .ref (pl (60 + 2 * m))), (2, .int (iI p)), (3, .int (iI e)), (4, .int (iI 1))] [.int (iI (e - p)), .int (iI ((((c j).1, (c j).2.1, cyI (c m).2.2 (c j).2.2 (p) ((c j).1) (e - p))).1)), .ref (pl (60 + 2 * j))] _ _ _ _
          refine pm_e_sim pm_a59_78 rfl ?_
          refine pm_e_top (y := iI ((((c j).1, (c j).2.1, cyI (c m).2.2 (c j).2.2 (p) ((c j).1) (e - p))).1 + (e - p))) (iI_add _ _) ?_
          show pm_E _ _ _ 79 [(0, .ref (pl (60 + 2 * j))), (1, .ref (pl (60 + 2 * m))), (2, .int (iI p)), (3, .int (iI e)), (4, .int (iI 1))] [.int (iI ((((c j).1, (c j).2.1, cyI (c m).2.2 (c j).2.2 (p) ((c j).1) (e - p))).1 + (e - p))), .ref (pl (60 + 2 * j))] _ _ _ _
          refine pm_i_put pm_a59_79 rfl (cg_o hj) rfl (Nat.le_of_ble_eq_true rfl) (Or.inl rfl) (cw_len hW hj ((((c j).1, (c j).2.1, cyI (c m).2.2 (c j).2.2 (p) ((c j).1) (e - p))).1 + (e - p))) ?_
          show pm_E _ _ _ 82 [(0, .ref (pl (60 + 2 * j))), (1, .ref (pl (60 + 2 * m))), (2, .int (iI p)), (3, .int (iI e)), (4, .int (iI 1))] [] _ _ _ _
          refine pm_e_ret pm_a59_82 rfl rfl rfl rfl rfl rfl rfl rfl ?_
          refine pm_q_heap (show _ = ch n kd pl s a (updC c j ((c j).1 + (e - p), (c j).2.1, cyI (c m).2.2 (c j).2.2 p (c j).1 (e - p))) M from by simp only [updC_s, updC_at]) ?_
          refine k _ ⟨⟨by show 0 ≤ (c j).1 + (e - p); omega, by show (c j).1 + (e - p) ≤ rm j; omega, ho.2.2.1, cyI_in hom.2.2.2 ho.2.2.2⟩, ?_⟩
          rcases hl with ⟨z1, z2, z3, z4⟩ | ⟨z1, z2⟩
          · refine Or.inl ⟨by rw [List.length_append, rg_len]; omega, z2, ?_, cyI_app (by omega) z4 z3⟩
            show (c j).1 + (e - p) = _
            rw [List.length_append, rg_len]; omega
          · exact Or.inr ⟨by rw [List.length_append, rg_len]; omega, z2⟩
        · skip
          show pm_E _ _ _ 45 [(0, .ref (pl (60 + 2 * j))), (1, .ref (pl (60 + 2 * m))), (2, .int (iI p)), (3, .int (iI e)), (4, .int (iI 1))] [] _ _ _ _
          refine pm_e_sim pm_a59_45 rfl ?_
          show pm_E _ _ _ 46 [(0, .ref (pl (60 + 2 * j))), (1, .ref (pl (60 + 2 * m))), (2, .int (iI p)), (3, .int (iI e)), (4, .int (iI 1))] [.ref (pl (60 + 2 * j))] _ _ _ _
          refine pm_e_sim pm_a59_46 rfl ?_
          refine pm_e_top (y := iI 1) (by decide +kernel) ?_
          show pm_E _ _ _ 47 [(0, .ref (pl (60 + 2 * j))), (1, .ref (pl (60 + 2 * m))), (2, .int (iI p)), (3, .int (iI e)), (4, .int (iI 1))] [.int (iI 1), .ref (pl (60 + 2 * j))] _ _ _ _
          refine pm_i_put pm_a59_47 rfl (cg_o hj) (by decide +kernel) (Nat.le_of_ble_eq_true rfl) (Or.inl rfl) (cw_ov hW hj 1) ?_
          show pm_E _ _ _ 50 [(0, .ref (pl (60 + 2 * j))), (1, .ref (pl (60 + 2 * m))), (2, .int (iI p)), (3, .int (iI e)), (4, .int (iI 1))] [] _ _ _ _
          refine pm_e_ret pm_a59_50 rfl rfl rfl rfl rfl rfl rfl rfl ?_
          refine k _ ⟨⟨ho.1, ho.2.1, Or.inr rfl, ho.2.2.2⟩, Or.inr ⟨?_, rfl⟩⟩
          rw [List.length_append, rg_len]
          rcases hl with ⟨z1, z2, z3, z4⟩ | ⟨z1, z2⟩ <;> omega
set_option maxHeartbeats 4000000 in
set_option maxRecDepth 100000 in
theorem C_putAll {d n : Nat} {kd pl : Nat → Nat} {s : Nat → Int} {a : Nat → Int → Int} {c : Nat → cdt} {M : List va_E} {Q : Option Value → List va_E → Nat → Nat → Prop} {j : Nat} {m : Nat} {l : List Int} {y : cdt} (hW : wf n kd pl) (hj : j < 38 ∧ al n kd pl (60 + 2 * j)) (hm : m < 38 ∧ al n kd pl (60 + 2 * m)) (hy : c m = y) (hom : okx (rm m) y) (hl0 : md (c j) (rm j) l) (k : ∀ x, md x (rm j) (l ++ rg y.2.2 y.1.toNat 0) → Q none (ch n kd pl s a (updC c j x) M) 0 0) : pm_E none (d + 1) pm_mm58 0 [(0, .ref (pl (60 + 2 * j))), (1, .ref (pl (60 + 2 * m)))] [] (ch n kd pl s a c M) 0 0 Q := by
  subst hy
  obtain ⟨q1, q2, q3, q4⟩ := id hom
  refine pm_e_sim pm_a58_0 rfl ?_
  show pm_E _ _ _ 1 [(0, .ref (pl (60 + 2 * j))), (1, .ref (pl (60 + 2 * m)))] [.ref (pl (60 + 2 * j))] _ _ _ _
  refine pm_e_sim pm_a58_1 rfl ?_
  show pm_E _ _ _ 2 [(0, .ref (pl (60 + 2 * j))), (1, .ref (pl (60 + 2 * m)))] [.ref (pl (60 + 2 * m)), .ref (pl (60 + 2 * j))] _ _ _ _
  refine pm_e_sim pm_a58_2 rfl ?_
  refine pm_e_top (y := iI 0) (by decide +kernel) ?_
  show pm_E _ _ _ 3 [(0, .ref (pl (60 + 2 * j))), (1, .ref (pl (60 + 2 * m)))] [.int (iI 0), .ref (pl (60 + 2 * m)), .ref (pl (60 + 2 * j))] _ _ _ _
  refine pm_e_sim pm_a58_3 rfl ?_
  show pm_E _ _ _ 4 [(0, .ref (pl (60 + 2 * j))), (1, .ref (pl (60 + 2 * m)))] [.ref (pl (60 + 2 * m)), .int (iI 0), .ref (pl (60 + 2 * m)), .ref (pl (60 + 2 * j))] _ _ _ _
  refine pm_i_get pm_a58_4 rfl (cg_o hm) rfl ?_
  show pm_E _ _ _ 7 [(0, .ref (pl (60 + 2 * j))), (1, .ref (pl (60 + 2 * m)))] [.int (iI ((c m).1)), .int (iI 0), .ref (pl (60 + 2 * m)), .ref (pl (60 + 2 * j))] _ _ _ _
  refine pm_i_callv (k := (pl (60 + 2 * j))) (T2 := pm_mm59) pm_a58_7 rfl rfl rfl (cg_o hj) ⟨Nat.le_of_ble_eq_true rfl, Nat.le_of_ble_eq_true rfl, rfl, by decide +kernel⟩ ?_
  show pm_E none _ _ 0 [(0, .ref (pl (60 + 2 * j))), (1, .ref (pl (60 + 2 * m))), (2, .int (iI 0)), (3, .int (iI ((c m).1)))] [] _ _ _ _
  refine C_putPart hW hj hm rfl hom hl0 (by omega) (by omega) (by omega) (fun x hx => ?_)
  show pm_E _ _ _ 10 [(0, .ref (pl (60 + 2 * j))), (1, .ref (pl (60 + 2 * m)))] [] _ _ _ _
  refine pm_e_ret pm_a58_10 rfl rfl rfl rfl rfl rfl rfl rfl ?_
  refine k x ?_
  rw [show ((c m).1 - 0).toNat = (c m).1.toNat by omega] at hx
  exact hx
