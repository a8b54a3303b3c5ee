/-! THE REFERENCE: depths, fails, look, isSign -/
theorem updA_s {a : Nat → Int → Int} {k : Nat} {x y : Int → Int} : updA (updA a k x) k y = updA a k y := by
  funext j
  unfold updA
  by_cases h : j = k <;> simp [h]
theorem updA_c {a : Nat → Int → Int} {k l : Nat} {x y : Int → Int} (h : k ≠ l) : updA (updA a k x) l y = updA (updA a l y) k x := by
  funext j
  unfold updA
  by_cases h1 : j = k
  · subst h1
    simp [h]
  · simp [h1]
theorem updA_i {a : Nat → Int → Int} {k l : Nat} {x y z : Int → Int} (h : k ≠ l) : updA (updA (updA a k x) l y) k z = updA (updA a k z) l y := by
  rw [updA_c (x := y) (Ne.symm h), updA_s]
theorem updA_self {a : Nat → Int → Int} {k : Nat} : updA a k (a k) = a := by
  funext j
  unfold updA
  by_cases h : j = k <;> simp [h]
theorem updS_s {s : Nat → Int} {k : Nat} {x y : Int} : updS (updS s k x) k y = updS s k y := by
  funext j
  unfold updS
  by_cases h : j = k <;> simp [h]
theorem updS_c {s : Nat → Int} {k l : Nat} {x y : Int} (h : k ≠ l) : updS (updS s k x) l y = updS (updS s l y) k x := by
  funext j
  unfold updS
  by_cases h1 : j = k
  · subst h1
    simp [h]
  · simp [h1]
theorem updS_self {s : Nat → Int} {k : Nat} : updS s k (s k) = s := by
  funext j
  unfold updS
  by_cases h : j = k <;> simp [h]
/-- what depths does: P the terms that wait, D the depths -/
def dpr (g : Int → Int) : Nat → Int → Int → (Int → Int) → (Int → Int) → (Int → Int) × (Int → Int)
  | 0, _, _, P, D => (P, D)
  | f + 1, w, i, P, D => if w ≤ 0 then (P, D) else if g i = 0 then dpr g f (w + (-1) + 2) (i + 1) (updI (updI P (w + (-1)) (P (w + (-1)))) (w + (-1) + 1) (P (w + (-1)))) (updI D i (P (w + (-1)))) else if g i = 1 then dpr g f (w + (-1) + 1) (i + 1) (updI P (w + (-1)) (P (w + (-1)) + 1)) (updI D i (P (w + (-1)))) else dpr g f (w + (-1)) (i + 1) P (updI D i (P (w + (-1))))
theorem dpr_done {g : Int → Int} {f : Nat} {w i : Int} {P D : Int → Int} (h : w ≤ 0) : dpr g f w i P D = (P, D) := by
  cases f with
  | zero => rfl
  | succ f => unfold dpr; rw [if_pos h]
theorem dpr_0 {g : Int → Int} {f : Nat} {w i : Int} {P D : Int → Int} (h : 0 < w) (h0 : g i = 0) : dpr g (f + 1) w i P D = dpr g f (w + (-1) + 2) (i + 1) (updI (updI P (w + (-1)) (P (w + (-1)))) (w + (-1) + 1) (P (w + (-1)))) (updI D i (P (w + (-1)))) := by
  rw [dpr, if_neg (by omega), if_pos h0]
theorem dpr_1 {g : Int → Int} {f : Nat} {w i : Int} {P D : Int → Int} (h : 0 < w) (h0 : g i = 1) : dpr g (f + 1) w i P D = dpr g f (w + (-1) + 1) (i + 1) (updI P (w + (-1)) (P (w + (-1)) + 1)) (updI D i (P (w + (-1)))) := by
  rw [dpr, if_neg (by omega), if_neg (by omega), if_pos h0]
theorem dpr_2 {g : Int → Int} {f : Nat} {w i : Int} {P D : Int → Int} (h : 0 < w) (h0 : g i ≠ 0) (h1 : g i ≠ 1) : dpr g (f + 1) w i P D = dpr g f (w + (-1)) (i + 1) P (updI D i (P (w + (-1)))) := by
  rw [dpr, if_neg (by omega), if_neg h0, if_neg h1]
set_option maxHeartbeats 4000000 in
set_option maxRecDepth 100000 in
theorem M_depths_l {d : Nat} {A B : List va_E} {s : Nat → Int} {vl : Int64} {a : Nat → Int → Int} {nm : Nat → Int64} {Q : Option Value → List va_E → Nat → Nat → Prop} {x e : Int} (hA : A.length = 18) (hr : ∀ j, in32 (a 4 j)) : ∀ (f : Nat) (w i dd : Int) (P D : Int → Int), sc (a 4) f w i = some e → 0 ≤ i → i + f ≤ 12000 → 0 ≤ w → w + f ≤ 11990 → Q none (mh A s vl (updA (updA a 5 (dpr (a 4) f w i P D).2) 6 (dpr (a 4) f w i P D).1) nm B) 0 0 → pm_E none d pm_mm171 11 [(0, .ref 18), (1, .int (iI x)), (2, .int (iI w)), (3, .int (iI i)), (4, .int (iI dd))] [] (mh A s vl (updA (updA a 5 D) 6 P) nm B) 0 0 Q := by
  intro f
  induction f with
  | zero =>
    intro w i dd P D hs hi0 hi1 hn0 hn1 k
    have hq := sc_none hs
    refine pm_e_sim pm_a171_11 rfl ?_
    show pm_E _ _ _ 12 [(0, .ref 18), (1, .int (iI x)), (2, .int (iI w)), (3, .int (iI i)), (4, .int (iI dd))] [.int (iI w)] _ _ _ _
    refine pm_i_le (t := 96) pm_a171_12 rfl ⟨by omega, by omega⟩ (fun h_1 => ?_) (fun h_1 => ?_)
    · skip
      show pm_E _ _ _ 96 [(0, .ref 18), (1, .int (iI x)), (2, .int (iI w)), (3, .int (iI i)), (4, .int (iI dd))] [] _ _ _ _
      refine pm_e_ret pm_a171_96 rfl rfl rfl rfl rfl rfl rfl rfl ?_
      rw [dpr_done (by omega)] at k
      exact k
    · skip
      exfalso; omega
  | succ f ih =>
    intro w i dd P D hs hi0 hi1 hn0 hn1 k
    have hr1 := hr i
    refine pm_e_sim pm_a171_11 rfl ?_
    show pm_E _ _ _ 12 [(0, .ref 18), (1, .int (iI x)), (2, .int (iI w)), (3, .int (iI i)), (4, .int (iI dd))] [.int (iI w)] _ _ _ _
    refine pm_i_le (t := 96) pm_a171_12 rfl ⟨by omega, by omega⟩ (fun h_1 => ?_) (fun h_1 => ?_)
    · skip
      show pm_E _ _ _ 96 [(0, .ref 18), (1, .int (iI x)), (2, .int (iI w)), (3, .int (iI i)), (4, .int (iI dd))] [] _ _ _ _
      refine pm_e_ret pm_a171_96 rfl rfl rfl rfl rfl rfl rfl rfl ?_
      rw [dpr_done (by omega)] at k
      exact k
    · skip
      show pm_E _ _ _ 15 [(0, .ref 18), (1, .int (iI x)), (2, .int (iI w)), (3, .int (iI i)), (4, .int (iI dd))] [] _ _ _ _
      refine pm_e_inc (y := iI (w + (-1))) pm_a171_15 rfl (iI_add _ _) (by decide +kernel) rfl ?_
      show pm_E _ _ _ 18 [(0, .ref 18), (1, .int (iI x)), (2, .int (iI (w + (-1)))), (3, .int (iI i)), (4, .int (iI dd))] [] _ _ _ _
      refine pm_e_sim pm_a171_18 rfl ?_
      show pm_E _ _ _ 19 [(0, .ref 18), (1, .int (iI x)), (2, .int (iI (w + (-1)))), (3, .int (iI i)), (4, .int (iI dd))] [.ref 18] _ _ _ _
      refine pm_i_get pm_a171_19 rfl (mh_get (j := 0) hA rfl) rfl ?_
      show pm_E _ _ _ 22 [(0, .ref 18), (1, .int (iI x)), (2, .int (iI (w + (-1)))), (3, .int (iI i)), (4, .int (iI dd))] [.ref 24] _ _ _ _
      refine pm_e_sim pm_a171_22 rfl ?_
      show pm_E _ _ _ 23 [(0, .ref 18), (1, .int (iI x)), (2, .int (iI (w + (-1)))), (3, .int (iI i)), (4, .int (iI dd))] [.int (iI (w + (-1))), .ref 24] _ _ _ _
      refine pm_i_ald pm_a171_23 (mh_get (j := 6) hA rfl) (by omega) (by omega) ⟨by omega, by omega⟩ ?_
      show pm_E _ _ _ 24 [(0, .ref 18), (1, .int (iI x)), (2, .int (iI (w + (-1)))), (3, .int (iI i)), (4, .int (iI dd))] [.int (iI ((P) (w + (-1))))] _ _ _ _
      refine pm_e_sim pm_a171_24 rfl ?_
      show pm_E _ _ _ 26 [(0, .ref 18), (1, .int (iI x)), (2, .int (iI (w + (-1)))), (3, .int (iI i)), (4, .int (iI ((P) (w + (-1)))))] [] _ _ _ _
      refine pm_e_sim pm_a171_26 rfl ?_
      show pm_E _ _ _ 27 [(0, .ref 18), (1, .int (iI x)), (2, .int (iI (w + (-1)))), (3, .int (iI i)), (4, .int (iI ((P) (w + (-1)))))] [.ref 18] _ _ _ _
      refine pm_i_get pm_a171_27 rfl (mh_get (j := 0) hA rfl) rfl ?_
      show pm_E _ _ _ 30 [(0, .ref 18), (1, .int (iI x)), (2, .int (iI (w + (-1)))), (3, .int (iI i)), (4, .int (iI ((P) (w + (-1)))))] [.ref 23] _ _ _ _
      refine pm_e_sim pm_a171_30 rfl ?_
      show pm_E _ _ _ 31 [(0, .ref 18), (1, .int (iI x)), (2, .int (iI (w + (-1)))), (3, .int (iI i)), (4, .int (iI ((P) (w + (-1)))))] [.int (iI i), .ref 23] _ _ _ _
      refine pm_e_sim pm_a171_31 rfl ?_
      show pm_E _ _ _ 33 [(0, .ref 18), (1, .int (iI x)), (2, .int (iI (w + (-1)))), (3, .int (iI i)), (4, .int (iI ((P) (w + (-1)))))] [.int (iI ((P) (w + (-1)))), .int (iI i), .ref 23] _ _ _ _
      refine pm_i_ast pm_a171_33 (mh_get (j := 5) hA rfl) (by omega) (by omega) ⟨by omega, by omega⟩ ((ma_5 hA _).trans (congrArg (fun z => mh A _ _ z _ B) (updA_i (by decide)))) ?_
      show pm_E _ _ _ 34 [(0, .ref 18), (1, .int (iI x)), (2, .int (iI (w + (-1)))), (3, .int (iI i)), (4, .int (iI ((P) (w + (-1)))))] [] _ _ _ _
      refine pm_e_sim pm_a171_34 rfl ?_
      show pm_E _ _ _ 35 [(0, .ref 18), (1, .int (iI x)), (2, .int (iI (w + (-1)))), (3, .int (iI i)), (4, .int (iI ((P) (w + (-1)))))] [.ref 18] _ _ _ _
      refine pm_i_get pm_a171_35 rfl (mh_get (j := 0) hA rfl) rfl ?_
      show pm_E _ _ _ 38 [(0, .ref 18), (1, .int (iI x)), (2, .int (iI (w + (-1)))), (3, .int (iI i)), (4, .int (iI ((P) (w + (-1)))))] [.ref 22] _ _ _ _
      refine pm_e_sim pm_a171_38 rfl ?_
      show pm_E _ _ _ 39 [(0, .ref 18), (1, .int (iI x)), (2, .int (iI (w + (-1)))), (3, .int (iI i)), (4, .int (iI ((P) (w + (-1)))))] [.int (iI i), .ref 22] _ _ _ _
      refine pm_i_ald pm_a171_39 (mh_get (j := 4) hA rfl) (by omega) (by omega) ⟨by omega, by omega⟩ ?_
      show pm_E _ _ _ 40 [(0, .ref 18), (1, .int (iI x)), (2, .int (iI (w + (-1)))), (3, .int (iI i)), (4, .int (iI ((P) (w + (-1)))))] [.int (iI ((a 4) (i)))] _ _ _ _
      refine pm_i_ne (t := 67) pm_a171_40 rfl ⟨by omega, by omega⟩ (fun h_2 => ?_) (fun h_2 => ?_)
      · skip
        show pm_E _ _ _ 67 [(0, .ref 18), (1, .int (iI x)), (2, .int (iI (w + (-1)))), (3, .int (iI i)), (4, .int (iI ((P) (w + (-1)))))] [] _ _ _ _
        refine pm_e_sim pm_a171_67 rfl ?_
        show pm_E _ _ _ 68 [(0, .ref 18), (1, .int (iI x)), (2, .int (iI (w + (-1)))), (3, .int (iI i)), (4, .int (iI ((P) (w + (-1)))))] [.ref 18] _ _ _ _
        refine pm_i_get pm_a171_68 rfl (mh_get (j := 0) hA rfl) rfl ?_
        show pm_E _ _ _ 71 [(0, .ref 18), (1, .int (iI x)), (2, .int (iI (w + (-1)))), (3, .int (iI i)), (4, .int (iI ((P) (w + (-1)))))] [.ref 22] _ _ _ _
        refine pm_e_sim pm_a171_71 rfl ?_
        show pm_E _ _ _ 72 [(0, .ref 18), (1, .int (iI x)), (2, .int (iI (w + (-1)))), (3, .int (iI i)), (4, .int (iI ((P) (w + (-1)))))] [.int (iI i), .ref 22] _ _ _ _
        refine pm_i_ald pm_a171_72 (mh_get (j := 4) hA rfl) (by omega) (by omega) ⟨by omega, by omega⟩ ?_
        show pm_E _ _ _ 73 [(0, .ref 18), (1, .int (iI x)), (2, .int (iI (w + (-1)))), (3, .int (iI i)), (4, .int (iI ((P) (w + (-1)))))] [.int (iI ((a 4) (i)))] _ _ _ _
        refine pm_e_sim pm_a171_73 rfl ?_
        refine pm_e_top (y := iI 1) (by decide +kernel) ?_
        show pm_E _ _ _ 74 [(0, .ref 18), (1, .int (iI x)), (2, .int (iI (w + (-1)))), (3, .int (iI i)), (4, .int (iI ((P) (w + (-1)))))] [.int (iI 1), .int (iI ((a 4) (i)))] _ _ _ _
        refine pm_c_ne (t := 90) pm_a171_74 rfl ⟨by omega, by omega⟩ ⟨by omega, by omega⟩ (fun h_3 => ?_) (fun h_3 => ?_)
        · skip
          show pm_E _ _ _ 90 [(0, .ref 18), (1, .int (iI x)), (2, .int (iI (w + (-1)))), (3, .int (iI i)), (4, .int (iI ((P) (w + (-1)))))] [] _ _ _ _
          refine pm_e_inc (y := iI (i + 1)) pm_a171_90 rfl (iI_add _ _) (by decide +kernel) rfl ?_
          show pm_E _ _ _ 93 [(0, .ref 18), (1, .int (iI x)), (2, .int (iI (w + (-1)))), (3, .int (iI (i + 1))), (4, .int (iI ((P) (w + (-1)))))] [] _ _ _ _
          refine pm_e_goto pm_a171_93 rfl ?_
          show pm_E _ _ _ 11 [(0, .ref 18), (1, .int (iI x)), (2, .int (iI (w + (-1)))), (3, .int (iI (i + 1))), (4, .int (iI ((P) (w + (-1)))))] [] _ _ _ _
          rw [dpr_2 (by omega) (by omega) (by omega)] at k
          have hs2 : sc (a 4) f (w + (-1)) (i + 1) = some e := by have := sc_step hs (by omega) (dlt_2 (by omega) (by omega)); rw [show w + (-1) = w + (-1) by omega]; exact this
          exact ih (w + (-1)) (i + 1) _ _ _ hs2 (by omega) (by omega) (by omega) (by omega) k
        · skip
          show pm_E _ _ _ 77 [(0, .ref 18), (1, .int (iI x)), (2, .int (iI (w + (-1)))), (3, .int (iI i)), (4, .int (iI ((P) (w + (-1)))))] [] _ _ _ _
          refine pm_e_sim pm_a171_77 rfl ?_
          show pm_E _ _ _ 78 [(0, .ref 18), (1, .int (iI x)), (2, .int (iI (w + (-1)))), (3, .int (iI i)), (4, .int (iI ((P) (w + (-1)))))] [.ref 18] _ _ _ _
          refine pm_i_get pm_a171_78 rfl (mh_get (j := 0) hA rfl) rfl ?_
          show pm_E _ _ _ 81 [(0, .ref 18), (1, .int (iI x)), (2, .int (iI (w + (-1)))), (3, .int (iI i)), (4, .int (iI ((P) (w + (-1)))))] [.ref 24] _ _ _ _
          refine pm_e_sim pm_a171_81 rfl ?_
          show pm_E _ _ _ 82 [(0, .ref 18), (1, .int (iI x)), (2, .int (iI (w + (-1)))), (3, .int (iI i)), (4, .int (iI ((P) (w + (-1)))))] [.int (iI (w + (-1))), .ref 24] _ _ _ _
          refine pm_e_sim pm_a171_82 rfl ?_
          show pm_E _ _ _ 84 [(0, .ref 18), (1, .int (iI x)), (2, .int (iI (w + (-1)))), (3, .int (iI i)), (4, .int (iI ((P) (w + (-1)))))] [.int (iI ((P) (w + (-1)))), .int (iI (w + (-1))), .ref 24] _ _ _ _
          refine pm_e_sim pm_a171_84 rfl ?_
          refine pm_e_top (y := iI 1) (by decide +kernel) ?_
          show pm_E _ _ _ 85 [(0, .ref 18), (1, .int (iI x)), (2, .int (iI (w + (-1)))), (3, .int (iI i)), (4, .int (iI ((P) (w + (-1)))))] [.int (iI 1), .int (iI ((P) (w + (-1)))), .int (iI (w + (-1))), .ref 24] _ _ _ _
          refine pm_e_sim pm_a171_85 rfl ?_
          refine pm_e_top (y := iI ((P) (w + (-1)) + 1)) (iI_add _ _) ?_
          show pm_E _ _ _ 86 [(0, .ref 18), (1, .int (iI x)), (2, .int (iI (w + (-1)))), (3, .int (iI i)), (4, .int (iI ((P) (w + (-1)))))] [.int (iI ((P) (w + (-1)) + 1)), .int (iI (w + (-1))), .ref 24] _ _ _ _
          refine pm_i_ast pm_a171_86 (mh_get (j := 6) hA rfl) (by omega) (by omega) ⟨by omega, by omega⟩ ((ma_6 hA _).trans (congrArg (fun z => mh A _ _ z _ B) (updA_s))) ?_
          show pm_E _ _ _ 87 [(0, .ref 18), (1, .int (iI x)), (2, .int (iI (w + (-1)))), (3, .int (iI i)), (4, .int (iI ((P) (w + (-1)))))] [] _ _ _ _
          refine pm_e_inc (y := iI (w + (-1) + 1)) pm_a171_87 rfl (iI_add _ _) (by decide +kernel) rfl ?_
          show pm_E _ _ _ 90 [(0, .ref 18), (1, .int (iI x)), (2, .int (iI (w + (-1) + 1))), (3, .int (iI i)), (4, .int (iI ((P) (w + (-1)))))] [] _ _ _ _
          refine pm_e_inc (y := iI (i + 1)) pm_a171_90 rfl (iI_add _ _) (by decide +kernel) rfl ?_
          show pm_E _ _ _ 93 [(0, .ref 18), (1, .int (iI x)), (2, .int (iI (w + (-1) + 1))), (3, .int (iI (i + 1))), (4, .int (iI ((P) (w + (-1)))))] [] _ _ _ _
          refine pm_e_goto pm_a171_93 rfl ?_
          show pm_E _ _ _ 11 [(0, .ref 18), (1, .int (iI x)), (2, .int (iI (w + (-1) + 1))), (3, .int (iI (i + 1))), (4, .int (iI ((P) (w + (-1)))))] [] _ _ _ _
          rw [dpr_1 (by omega) (by omega)] at k
          have hs2 : sc (a 4) f (w + (-1) + 1) (i + 1) = some e := by have := sc_step hs (by omega) (dlt_1 (by omega)); rw [show w + (-1) + 1 = w + 0 by omega]; exact this
          exact ih (w + (-1) + 1) (i + 1) _ _ _ hs2 (by omega) (by omega) (by omega) (by omega) k
      · skip
        show pm_E _ _ _ 43 [(0, .ref 18), (1, .int (iI x)), (2, .int (iI (w + (-1)))), (3, .int (iI i)), (4, .int (iI ((P) (w + (-1)))))] [] _ _ _ _
        refine pm_e_sim pm_a171_43 rfl ?_
        show pm_E _ _ _ 44 [(0, .ref 18), (1, .int (iI x)), (2, .int (iI (w + (-1)))), (3, .int (iI i)), (4, .int (iI ((P) (w + (-1)))))] [.ref 18] _ _ _ _
        refine pm_i_get pm_a171_44 rfl (mh_get (j := 0) hA rfl) rfl ?_
        show pm_E _ _ _ 47 [(0, .ref 18), (1, .int (iI x)), (2, .int (iI (w + (-1)))), (3, .int (iI i)), (4, .int (iI ((P) (w + (-1)))))] [.ref 24] _ _ _ _
        refine pm_e_sim pm_a171_47 rfl ?_
        show pm_E _ _ _ 48 [(0, .ref 18), (1, .int (iI x)), (2, .int (iI (w + (-1)))), (3, .int (iI i)), (4, .int (iI ((P) (w + (-1)))))] [.int (iI (w + (-1))), .ref 24] _ _ _ _
        refine pm_e_sim pm_a171_48 rfl ?_
        show pm_E _ _ _ 50 [(0, .ref 18), (1, .int (iI x)), (2, .int (iI (w + (-1)))), (3, .int (iI i)), (4, .int (iI ((P) (w + (-1)))))] [.int (iI ((P) (w + (-1)))), .int (iI (w + (-1))), .ref 24] _ _ _ _
        refine pm_i_ast pm_a171_50 (mh_get (j := 6) hA rfl) (by omega) (by omega) ⟨by omega, by omega⟩ ((ma_6 hA _).trans (congrArg (fun z => mh A _ _ z _ B) (updA_s))) ?_
        show pm_E _ _ _ 51 [(0, .ref 18), (1, .int (iI x)), (2, .int (iI (w + (-1)))), (3, .int (iI i)), (4, .int (iI ((P) (w + (-1)))))] [] _ _ _ _
        refine pm_e_sim pm_a171_51 rfl ?_
        show pm_E _ _ _ 52 [(0, .ref 18), (1, .int (iI x)), (2, .int (iI (w + (-1)))), (3, .int (iI i)), (4, .int (iI ((P) (w + (-1)))))] [.ref 18] _ _ _ _
        refine pm_i_get pm_a171_52 rfl (mh_get (j := 0) hA rfl) rfl ?_
        show pm_E _ _ _ 55 [(0, .ref 18), (1, .int (iI x)), (2, .int (iI (w + (-1)))), (3, .int (iI i)), (4, .int (iI ((P) (w + (-1)))))] [.ref 24] _ _ _ _
        refine pm_e_sim pm_a171_55 rfl ?_
        show pm_E _ _ _ 56 [(0, .ref 18), (1, .int (iI x)), (2, .int (iI (w + (-1)))), (3, .int (iI i)), (4, .int (iI ((P) (w + (-1)))))] [.int (iI (w + (-1))), .ref 24] _ _ _ _
        refine pm_e_sim pm_a171_56 rfl ?_
        refine pm_e_top (y := iI 1) (by decide +kernel) ?_
        show pm_E _ _ _ 57 [(0, .ref 18), (1, .int (iI x)), (2, .int (iI (w + (-1)))), (3, .int (iI i)), (4, .int (iI ((P) (w + (-1)))))] [.int (iI 1), .int (iI (w + (-1))), .ref 24] _ _ _ _
        refine pm_e_sim pm_a171_57 rfl ?_
        refine pm_e_top (y := iI (w + (-1) + 1)) (iI_add _ _) ?_
        show pm_E _ _ _ 58 [(0, .ref 18), (1, .int (iI x)), (2, .int (iI (w + (-1)))), (3, .int (iI i)), (4, .int (iI ((P) (w + (-1)))))] [.int (iI (w + (-1) + 1)), .ref 24] _ _ _ _
        refine pm_e_sim pm_a171_58 rfl ?_
        show pm_E _ _ _ 60 [(0, .ref 18), (1, .int (iI x)), (2, .int (iI (w + (-1)))), (3, .int (iI i)), (4, .int (iI ((P) (w + (-1)))))] [.int (iI ((P) (w + (-1)))), .int (iI (w + (-1) + 1)), .ref 24] _ _ _ _
        refine pm_i_ast pm_a171_60 (mh_get (j := 6) hA rfl) (by omega) (by omega) ⟨by omega, by omega⟩ ((ma_6 hA _).trans (congrArg (fun z => mh A _ _ z _ B) (updA_s))) ?_
        show pm_E _ _ _ 61 [(0, .ref 18), (1, .int (iI x)), (2, .int (iI (w + (-1)))), (3, .int (iI i)), (4, .int (iI ((P) (w + (-1)))))] [] _ _ _ _
        refine pm_e_inc (y := iI (w + (-1) + 2)) pm_a171_61 rfl (iI_add _ _) (by decide +kernel) rfl ?_
        show pm_E _ _ _ 64 [(0, .ref 18), (1, .int (iI x)), (2, .int (iI (w + (-1) + 2))), (3, .int (iI i)), (4, .int (iI ((P) (w + (-1)))))] [] _ _ _ _
        refine pm_e_goto pm_a171_64 rfl ?_
        show pm_E _ _ _ 90 [(0, .ref 18), (1, .int (iI x)), (2, .int (iI (w + (-1) + 2))), (3, .int (iI i)), (4, .int (iI ((P) (w + (-1)))))] [] _ _ _ _
        refine pm_e_inc (y := iI (i + 1)) pm_a171_90 rfl (iI_add _ _) (by decide +kernel) rfl ?_
        show pm_E _ _ _ 93 [(0, .ref 18), (1, .int (iI x)), (2, .int (iI (w + (-1) + 2))), (3, .int (iI (i + 1))), (4, .int (iI ((P) (w + (-1)))))] [] _ _ _ _
        refine pm_e_goto pm_a171_93 rfl ?_
        show pm_E _ _ _ 11 [(0, .ref 18), (1, .int (iI x)), (2, .int (iI (w + (-1) + 2))), (3, .int (iI (i + 1))), (4, .int (iI ((P) (w + (-1)))))] [] _ _ _ _
        rw [dpr_0 (by omega) (by omega)] at k
        have hs2 : sc (a 4) f (w + (-1) + 2) (i + 1) = some e := by have := sc_step hs (by omega) (dlt_0 (by omega)); rw [show w + (-1) + 2 = w + 1 by omega]; exact this
        exact ih (w + (-1) + 2) (i + 1) _ _ _ hs2 (by omega) (by omega) (by omega) (by omega) k
theorem pm_e_heap {scr : Option (Nat × (Nat → Int32))} {d : Nat} {T : pm_M} {pc : Nat} {lv : pm_L} {st : List Value} {ph ph1 : List va_E} {nc ns : Nat} {Q : Option Value → List va_E → Nat → Nat → Prop} (h : ph = ph1) (k : pm_E scr d T pc lv st ph1 nc ns Q) : pm_E scr d T pc lv st ph nc ns Q := by
  rw [h]
  exact k
set_option maxHeartbeats 4000000 in
set_option maxRecDepth 100000 in
theorem M_depths {d : Nat} {A B : List va_E} {s : Nat → Int} {vl : Int64} {a : Nat → Int → Int} {nm : Nat → Int64} {Q : Option Value → List va_E → Nat → Nat → Prop} {x e : Int} {f : Nat} (hA : A.length = 18) (hr : ∀ j, in32 (a 4 j)) (hs : sc (a 4) (f + 1) 1 x = some e) (hx0 : 0 ≤ x) (hx1 : x + f ≤ 11900) (hf : f ≤ 11900) (k : Q none (mh A s vl (updA (updA a 5 (dpr (a 4) (f + 1) 1 x (updI (a 6) 0 0) (a 5)).2) 6 (dpr (a 4) (f + 1) 1 x (updI (a 6) 0 0) (a 5)).1) nm B) 0 0) : pm_E none d pm_mm171 0 [(0, .ref 18), (1, .int (iI x))] [] (mh A s vl a nm B) 0 0 Q := by
  have hr1 := hr x
  refine pm_e_heap (show mh A s vl a nm B = mh A s vl (updA (updA a 5 (a 5)) 6 (a 6)) nm B from by rw [updA_self, updA_self]) ?_
  refine pm_e_sim pm_a171_0 rfl ?_
  refine pm_e_top (y := iI 1) (by decide +kernel) ?_
  show pm_E _ _ _ 1 [(0, .ref 18), (1, .int (iI x))] [.int (iI 1)] _ _ _ _
  refine pm_e_sim pm_a171_1 rfl ?_
  show pm_E _ _ _ 2 [(0, .ref 18), (1, .int (iI x)), (2, .int (iI 1))] [] _ _ _ _
  refine pm_e_sim pm_a171_2 rfl ?_
  show pm_E _ _ _ 3 [(0, .ref 18), (1, .int (iI x)), (2, .int (iI 1))] [.ref 18] _ _ _ _
  refine pm_i_get pm_a171_3 rfl (mh_get (j := 0) hA rfl) rfl ?_
  show pm_E _ _ _ 6 [(0, .ref 18), (1, .int (iI x)), (2, .int (iI 1))] [.ref 24] _ _ _ _
  refine pm_e_sim pm_a171_6 rfl ?_
  refine pm_e_top (y := iI 0) (by decide +kernel) ?_
  show pm_E _ _ _ 7 [(0, .ref 18), (1, .int (iI x)), (2, .int (iI 1))] [.int (iI 0), .ref 24] _ _ _ _
  refine pm_e_sim pm_a171_7 rfl ?_
  refine pm_e_top (y := iI 0) (by decide +kernel) ?_
  show pm_E _ _ _ 8 [(0, .ref 18), (1, .int (iI x)), (2, .int (iI 1))] [.int (iI 0), .int (iI 0), .ref 24] _ _ _ _
  refine pm_i_ast pm_a171_8 (mh_get (j := 6) hA rfl) (by omega) (by omega) ⟨by omega, by omega⟩ ((ma_6 hA _).trans (congrArg (fun z => mh A _ _ z _ B) (updA_s))) ?_
  show pm_E _ _ _ 9 [(0, .ref 18), (1, .int (iI x)), (2, .int (iI 1))] [] _ _ _ _
  refine pm_e_sim pm_a171_9 rfl ?_
  show pm_E _ _ _ 10 [(0, .ref 18), (1, .int (iI x)), (2, .int (iI 1))] [.int (iI x)] _ _ _ _
  refine pm_e_sim pm_a171_10 rfl ?_
  show pm_E _ _ _ 11 [(0, .ref 18), (1, .int (iI x)), (2, .int (iI 1)), (3, .int (iI x))] [] _ _ _ _
  refine pm_e_sim pm_a171_11 rfl ?_
  show pm_E _ _ _ 12 [(0, .ref 18), (1, .int (iI x)), (2, .int (iI 1)), (3, .int (iI x))] [.int (iI 1)] _ _ _ _
  refine pm_e_iff pm_a171_12 rfl (by decide +kernel) ?_
  show pm_E _ _ _ 15 [(0, .ref 18), (1, .int (iI x)), (2, .int (iI 1)), (3, .int (iI x))] [] _ _ _ _
  refine pm_e_inc (y := iI 0) pm_a171_15 rfl (by decide +kernel) (by decide +kernel) rfl ?_
  show pm_E _ _ _ 18 [(0, .ref 18), (1, .int (iI x)), (2, .int (iI 0)), (3, .int (iI x))] [] _ _ _ _
  refine pm_e_sim pm_a171_18 rfl ?_
  show pm_E _ _ _ 19 [(0, .ref 18), (1, .int (iI x)), (2, .int (iI 0)), (3, .int (iI x))] [.ref 18] _ _ _ _
  refine pm_i_get pm_a171_19 rfl (mh_get (j := 0) hA rfl) rfl ?_
  show pm_E _ _ _ 22 [(0, .ref 18), (1, .int (iI x)), (2, .int (iI 0)), (3, .int (iI x))] [.ref 24] _ _ _ _
  refine pm_e_sim pm_a171_22 rfl ?_
  show pm_E _ _ _ 23 [(0, .ref 18), (1, .int (iI x)), (2, .int (iI 0)), (3, .int (iI x))] [.int (iI 0), .ref 24] _ _ _ _
  refine pm_i_ald pm_a171_23 (mh_get (j := 6) hA rfl) (by omega) (by omega) ⟨by omega, by omega⟩ ?_
  show pm_E _ _ _ 24 [(0, .ref 18), (1, .int (iI x)), (2, .int (iI 0)), (3, .int (iI x))] [.int (iI ((updI (a 6) (0) (0)) (0)))] _ _ _ _
  refine pm_e_sim pm_a171_24 rfl ?_
  show pm_E _ _ _ 26 [(0, .ref 18), (1, .int (iI x)), (2, .int (iI 0)), (3, .int (iI x)), (4, .int (iI ((updI (a 6) (0) (0)) (0))))] [] _ _ _ _
  refine pm_e_sim pm_a171_26 rfl ?_
  show pm_E _ _ _ 27 [(0, .ref 18), (1, .int (iI x)), (2, .int (iI 0)), (3, .int (iI x)), (4, .int (iI ((updI (a 6) (0) (0)) (0))))] [.ref 18] _ _ _ _
  refine pm_i_get pm_a171_27 rfl (mh_get (j := 0) hA rfl) rfl ?_
  show pm_E _ _ _ 30 [(0, .ref 18), (1, .int (iI x)), (2, .int (iI 0)), (3, .int (iI x)), (4, .int (iI ((updI (a 6) (0) (0)) (0))))] [.ref 23] _ _ _ _
  refine pm_e_sim pm_a171_30 rfl ?_
  show pm_E _ _ _ 31 [(0, .ref 18), (1, .int (iI x)), (2, .int (iI 0)), (3, .int (iI x)), (4, .int (iI ((updI (a 6) (0) (0)) (0))))] [.int (iI x), .ref 23] _ _ _ _
  refine pm_e_sim pm_a171_31 rfl ?_
  show pm_E _ _ _ 33 [(0, .ref 18), (1, .int (iI x)), (2, .int (iI 0)), (3, .int (iI x)), (4, .int (iI ((updI (a 6) (0) (0)) (0))))] [.int (iI ((updI (a 6) (0) (0)) (0))), .int (iI x), .ref 23] _ _ _ _
  refine pm_i_ast pm_a171_33 (mh_get (j := 5) hA rfl) (by omega) (by omega) ⟨by omega, by omega⟩ ((ma_5 hA _).trans (congrArg (fun z => mh A _ _ z _ B) (updA_i (by decide)))) ?_
  show pm_E _ _ _ 34 [(0, .ref 18), (1, .int (iI x)), (2, .int (iI 0)), (3, .int (iI x)), (4, .int (iI ((updI (a 6) (0) (0)) (0))))] [] _ _ _ _
  refine pm_e_sim pm_a171_34 rfl ?_
  show pm_E _ _ _ 35 [(0, .ref 18), (1, .int (iI x)), (2, .int (iI 0)), (3, .int (iI x)), (4, .int (iI ((updI (a 6) (0) (0)) (0))))] [.ref 18] _ _ _ _
  refine pm_i_get pm_a171_35 rfl (mh_get (j := 0) hA rfl) rfl ?_
  show pm_E _ _ _ 38 [(0, .ref 18), (1, .int (iI x)), (2, .int (iI 0)), (3, .int (iI x)), (4, .int (iI ((updI (a 6) (0) (0)) (0))))] [.ref 22] _ _ _ _
  refine pm_e_sim pm_a171_38 rfl ?_
  show pm_E _ _ _ 39 [(0, .ref 18), (1, .int (iI x)), (2, .int (iI 0)), (3, .int (iI x)), (4, .int (iI ((updI (a 6) (0) (0)) (0))))] [.int (iI x), .ref 22] _ _ _ _
  refine pm_i_ald pm_a171_39 (mh_get (j := 4) hA rfl) (by omega) (by omega) ⟨by omega, by omega⟩ ?_
  show pm_E _ _ _ 40 [(0, .ref 18), (1, .int (iI x)), (2, .int (iI 0)), (3, .int (iI x)), (4, .int (iI ((updI (a 6) (0) (0)) (0))))] [.int (iI ((a 4) (x)))] _ _ _ _
  refine pm_i_ne (t := 67) pm_a171_40 rfl ⟨by omega, by omega⟩ (fun h_1 => ?_) (fun h_1 => ?_)
  · skip
    show pm_E _ _ _ 67 [(0, .ref 18), (1, .int (iI x)), (2, .int (iI 0)), (3, .int (iI x)), (4, .int (iI ((updI (a 6) (0) (0)) (0))))] [] _ _ _ _
    refine pm_e_sim pm_a171_67 rfl ?_
    show pm_E _ _ _ 68 [(0, .ref 18), (1, .int (iI x)), (2, .int (iI 0)), (3, .int (iI x)), (4, .int (iI ((updI (a 6) (0) (0)) (0))))] [.ref 18] _ _ _ _
    refine pm_i_get pm_a171_68 rfl (mh_get (j := 0) hA rfl) rfl ?_
    show pm_E _ _ _ 71 [(0, .ref 18), (1, .int (iI x)), (2, .int (iI 0)), (3, .int (iI x)), (4, .int (iI ((updI (a 6) (0) (0)) (0))))] [.ref 22] _ _ _ _
    refine pm_e_sim pm_a171_71 rfl ?_
    show pm_E _ _ _ 72 [(0, .ref 18), (1, .int (iI x)), (2, .int (iI 0)), (3, .int (iI x)), (4, .int (iI ((updI (a 6) (0) (0)) (0))))] [.int (iI x), .ref 22] _ _ _ _
    refine pm_i_ald pm_a171_72 (mh_get (j := 4) hA rfl) (by omega) (by omega) ⟨by omega, by omega⟩ ?_
    show pm_E _ _ _ 73 [(0, .ref 18), (1, .int (iI x)), (2, .int (iI 0)), (3, .int (iI x)), (4, .int (iI ((updI (a 6) (0) (0)) (0))))] [.int (iI ((a 4) (x)))] _ _ _ _
    refine pm_e_sim pm_a171_73 rfl ?_
    refine pm_e_top (y := iI 1) (by decide +kernel) ?_
    show pm_E _ _ _ 74 [(0, .ref 18), (1, .int (iI x)), (2, .int (iI 0)), (3, .int (iI x)), (4, .int (iI ((updI (a 6) (0) (0)) (0))))] [.int (iI 1), .int (iI ((a 4) (x)))] _ _ _ _
    refine pm_c_ne (t := 90) pm_a171_74 rfl ⟨by omega, by omega⟩ ⟨by omega, by omega⟩ (fun h_2 => ?_) (fun h_2 => ?_)
    · skip
      show pm_E _ _ _ 90 [(0, .ref 18), (1, .int (iI x)), (2, .int (iI 0)), (3, .int (iI x)), (4, .int (iI ((updI (a 6) (0) (0)) (0))))] [] _ _ _ _
      refine pm_e_inc (y := iI (x + 1)) pm_a171_90 rfl (iI_add _ _) (by decide +kernel) rfl ?_
      show pm_E _ _ _ 93 [(0, .ref 18), (1, .int (iI x)), (2, .int (iI 0)), (3, .int (iI (x + 1))), (4, .int (iI ((updI (a 6) (0) (0)) (0))))] [] _ _ _ _
      refine pm_e_goto pm_a171_93 rfl ?_
      show pm_E _ _ _ 11 [(0, .ref 18), (1, .int (iI x)), (2, .int (iI 0)), (3, .int (iI (x + 1))), (4, .int (iI ((updI (a 6) (0) (0)) (0))))] [] _ _ _ _
      rw [dpr_2 (by omega) (by omega) (by omega)] at k
      have hs2 : sc (a 4) f 0 (x + 1) = some e := sc_step hs (by omega) (dlt_2 (by omega) (by omega))
      exact M_depths_l hA hr f 0 (x + 1) _ _ _ hs2 (by omega) (by omega) (by omega) (by omega) k
    · skip
      show pm_E _ _ _ 77 [(0, .ref 18), (1, .int (iI x)), (2, .int (iI 0)), (3, .int (iI x)), (4, .int (iI ((updI (a 6) (0) (0)) (0))))] [] _ _ _ _
      refine pm_e_sim pm_a171_77 rfl ?_
      show pm_E _ _ _ 78 [(0, .ref 18), (1, .int (iI x)), (2, .int (iI 0)), (3, .int (iI x)), (4, .int (iI ((updI (a 6) (0) (0)) (0))))] [.ref 18] _ _ _ _
      refine pm_i_get pm_a171_78 rfl (mh_get (j := 0) hA rfl) rfl ?_
      show pm_E _ _ _ 81 [(0, .ref 18), (1, .int (iI x)), (2, .int (iI 0)), (3, .int (iI x)), (4, .int (iI ((updI (a 6) (0) (0)) (0))))] [.ref 24] _ _ _ _
      refine pm_e_sim pm_a171_81 rfl ?_
      show pm_E _ _ _ 82 [(0, .ref 18), (1, .int (iI x)), (2, .int (iI 0)), (3, .int (iI x)), (4, .int (iI ((updI (a 6) (0) (0)) (0))))] [.int (iI 0), .ref 24] _ _ _ _
      refine pm_e_sim pm_a171_82 rfl ?_
      show pm_E _ _ _ 84 [(0, .ref 18), (1, .int (iI x)), (2, .int (iI 0)), (3, .int (iI x)), (4, .int (iI ((updI (a 6) (0) (0)) (0))))] [.int (iI ((updI (a 6) (0) (0)) (0))), .int (iI 0), .ref 24] _ _ _ _
      refine pm_e_sim pm_a171_84 rfl ?_
      refine pm_e_top (y := iI 1) (by decide +kernel) ?_
      show pm_E _ _ _ 85 [(0, .ref 18), (1, .int (iI x)), (2, .int (iI 0)), (3, .int (iI x)), (4, .int (iI ((updI (a 6) (0) (0)) (0))))] [.int (iI 1), .int (iI ((updI (a 6) (0) (0)) (0))), .int (iI 0), .ref 24] _ _ _ _
      refine pm_e_sim pm_a171_85 rfl ?_
      refine pm_e_top (y := iI ((updI (a 6) (0) (0)) (0) + 1)) (iI_add _ _) ?_
      show pm_E _ _ _ 86 [(0, .ref 18), (1, .int (iI x)), (2, .int (iI 0)), (3, .int (iI x)), (4, .int (iI ((updI (a 6) (0) (0)) (0))))] [.int (iI ((updI (a 6) (0) (0)) (0) + 1)), .int (iI 0), .ref 24] _ _ _ _
      refine pm_i_ast pm_a171_86 (mh_get (j := 6) hA rfl) (by omega) (by omega) ⟨by omega, by omega⟩ ((ma_6 hA _).trans (congrArg (fun z => mh A _ _ z _ B) (updA_s))) ?_
      show pm_E _ _ _ 87 [(0, .ref 18), (1, .int (iI x)), (2, .int (iI 0)), (3, .int (iI x)), (4, .int (iI ((updI (a 6) (0) (0)) (0))))] [] _ _ _ _
      refine pm_e_inc (y := iI 1) pm_a171_87 rfl (by decide +kernel) (by decide +kernel) rfl ?_
      show pm_E _ _ _ 90 [(0, .ref 18), (1, .int (iI x)), (2, .int (iI 1)), (3, .int (iI x)), (4, .int (iI ((updI (a 6) (0) (0)) (0))))] [] _ _ _ _
      refine pm_e_inc (y := iI (x + 1)) pm_a171_90 rfl (iI_add _ _) (by decide +kernel) rfl ?_
      show pm_E _ _ _ 93 [(0, .ref 18), (1, .int (iI x)), (2, .int (iI 1)), (3, .int (iI (x + 1))), (4, .int (iI ((updI (a 6) (0) (0)) (0))))] [] _ _ _ _
      refine pm_e_goto pm_a171_93 rfl ?_
      show pm_E _ _ _ 11 [(0, .ref 18), (1, .int (iI x)), (2, .int (iI 1)), (3, .int (iI (x + 1))), (4, .int (iI ((updI (a 6) (0) (0)) (0))))] [] _ _ _ _
      rw [dpr_1 (by omega) (by omega)] at k
      have hs2 : sc (a 4) f 1 (x + 1) = some e := sc_step hs (by omega) (dlt_1 (by omega))
      exact M_depths_l hA hr f 1 (x + 1) _ _ _ hs2 (by omega) (by omega) (by omega) (by omega) k
  · skip
    show pm_E _ _ _ 43 [(0, .ref 18), (1, .int (iI x)), (2, .int (iI 0)), (3, .int (iI x)), (4, .int (iI ((updI (a 6) (0) (0)) (0))))] [] _ _ _ _
    refine pm_e_sim pm_a171_43 rfl ?_
    show pm_E _ _ _ 44 [(0, .ref 18), (1, .int (iI x)), (2, .int (iI 0)), (3, .int (iI x)), (4, .int (iI ((updI (a 6) (0) (0)) (0))))] [.ref 18] _ _ _ _
    refine pm_i_get pm_a171_44 rfl (mh_get (j := 0) hA rfl) rfl ?_
    show pm_E _ _ _ 47 [(0, .ref 18), (1, .int (iI x)), (2, .int (iI 0)), (3, .int (iI x)), (4, .int (iI ((updI (a 6) (0) (0)) (0))))] [.ref 24] _ _ _ _
    refine pm_e_sim pm_a171_47 rfl ?_
    show pm_E _ _ _ 48 [(0, .ref 18), (1, .int (iI x)), (2, .int (iI 0)), (3, .int (iI x)), (4, .int (iI ((updI (a 6) (0) (0)) (0))))] [.int (iI 0), .ref 24] _ _ _ _
    refine pm_e_sim pm_a171_48 rfl ?_
    show pm_E _ _ _ 50 [(0, .ref 18), (1, .int (iI x)), (2, .int (iI 0)), (3, .int (iI x)), (4, .int (iI ((updI (a 6) (0) (0)) (0))))] [.int (iI ((updI (a 6) (0) (0)) (0))), .int (iI 0), .ref 24] _ _ _ _
    refine pm_i_ast pm_a171_50 (mh_get (j := 6) hA rfl) (by omega) (by omega) ⟨by omega, by omega⟩ ((ma_6 hA _).trans (congrArg (fun z => mh A _ _ z _ B) (updA_s))) ?_
    show pm_E _ _ _ 51 [(0, .ref 18), (1, .int (iI x)), (2, .int (iI 0)), (3, .int (iI x)), (4, .int (iI ((updI (a 6) (0) (0)) (0))))] [] _ _ _ _
    refine pm_e_sim pm_a171_51 rfl ?_
    show pm_E _ _ _ 52 [(0, .ref 18), (1, .int (iI x)), (2, .int (iI 0)), (3, .int (iI x)), (4, .int (iI ((updI (a 6) (0) (0)) (0))))] [.ref 18] _ _ _ _
    refine pm_i_get pm_a171_52 rfl (mh_get (j := 0) hA rfl) rfl ?_
    show pm_E _ _ _ 55 [(0, .ref 18), (1, .int (iI x)), (2, .int (iI 0)), (3, .int (iI x)), (4, .int (iI ((updI (a 6) (0) (0)) (0))))] [.ref 24] _ _ _ _
    refine pm_e_sim pm_a171_55 rfl ?_
    show pm_E _ _ _ 56 [(0, .ref 18), (1, .int (iI x)), (2, .int (iI 0)), (3, .int (iI x)), (4, .int (iI ((updI (a 6) (0) (0)) (0))))] [.int (iI 0), .ref 24] _ _ _ _
    refine pm_e_sim pm_a171_56 rfl ?_
    refine pm_e_top (y := iI 1) (by decide +kernel) ?_
    show pm_E _ _ _ 57 [(0, .ref 18), (1, .int (iI x)), (2, .int (iI 0)), (3, .int (iI x)), (4, .int (iI ((updI (a 6) (0) (0)) (0))))] [.int (iI 1), .int (iI 0), .ref 24] _ _ _ _
    refine pm_e_sim pm_a171_57 rfl ?_
    refine pm_e_top (y := iI 1) (by decide +kernel) ?_
    show pm_E _ _ _ 58 [(0, .ref 18), (1, .int (iI x)), (2, .int (iI 0)), (3, .int (iI x)), (4, .int (iI ((updI (a 6) (0) (0)) (0))))] [.int (iI 1), .ref 24] _ _ _ _
    refine pm_e_sim pm_a171_58 rfl ?_
    show pm_E _ _ _ 60 [(0, .ref 18), (1, .int (iI x)), (2, .int (iI 0)), (3, .int (iI x)), (4, .int (iI ((updI (a 6) (0) (0)) (0))))] [.int (iI ((updI (a 6) (0) (0)) (0))), .int (iI 1), .ref 24] _ _ _ _
    refine pm_i_ast pm_a171_60 (mh_get (j := 6) hA rfl) (by omega) (by omega) ⟨by omega, by omega⟩ ((ma_6 hA _).trans (congrArg (fun z => mh A _ _ z _ B) (updA_s))) ?_
    show pm_E _ _ _ 61 [(0, .ref 18), (1, .int (iI x)), (2, .int (iI 0)), (3, .int (iI x)), (4, .int (iI ((updI (a 6) (0) (0)) (0))))] [] _ _ _ _
    refine pm_e_inc (y := iI 2) pm_a171_61 rfl (by decide +kernel) (by decide +kernel) rfl ?_
    show pm_E _ _ _ 64 [(0, .ref 18), (1, .int (iI x)), (2, .int (iI 2)), (3, .int (iI x)), (4, .int (iI ((updI (a 6) (0) (0)) (0))))] [] _ _ _ _
    refine pm_e_goto pm_a171_64 rfl ?_
    show pm_E _ _ _ 90 [(0, .ref 18), (1, .int (iI x)), (2, .int (iI 2)), (3, .int (iI x)), (4, .int (iI ((updI (a 6) (0) (0)) (0))))] [] _ _ _ _
    refine pm_e_inc (y := iI (x + 1)) pm_a171_90 rfl (iI_add _ _) (by decide +kernel) rfl ?_
    show pm_E _ _ _ 93 [(0, .ref 18), (1, .int (iI x)), (2, .int (iI 2)), (3, .int (iI (x + 1))), (4, .int (iI ((updI (a 6) (0) (0)) (0))))] [] _ _ _ _
    refine pm_e_goto pm_a171_93 rfl ?_
    show pm_E _ _ _ 11 [(0, .ref 18), (1, .int (iI x)), (2, .int (iI 2)), (3, .int (iI (x + 1))), (4, .int (iI ((updI (a 6) (0) (0)) (0))))] [] _ _ _ _
    rw [dpr_0 (by omega) (by omega)] at k
    have hs2 : sc (a 4) f 2 (x + 1) = some e := sc_step hs (by omega) (dlt_0 (by omega))
    exact M_depths_l hA hr f 2 (x + 1) _ _ _ hs2 (by omega) (by omega) (by omega) (by omega) k
