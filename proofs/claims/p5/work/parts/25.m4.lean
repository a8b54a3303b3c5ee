/-! CODES: where a term ends; THE REFERENCE: endOf -/
def dlt (c : Int) : Int := if c = 0 then 1 else if c = 1 then 0 else -1
theorem dlt_0 {c : Int} (h : c = 0) : dlt c = 1 := by unfold dlt; rw [if_pos h]
theorem dlt_1 {c : Int} (h : c = 1) : dlt c = 0 := by unfold dlt; rw [if_neg (by omega), if_pos h]
theorem dlt_2 {c : Int} (h : c ≠ 0) (h1 : c ≠ 1) : dlt c = -1 := by unfold dlt; rw [if_neg h, if_neg h1]
/-- from place i on, with so many terms wanting: where they end (within f steps) -/
def sc (g : Int → Int) : Nat → Int → Int → Option Int
  | 0, need, i => if need ≤ 0 then some i else none
  | f + 1, need, i => if need ≤ 0 then some i else sc g f (need + dlt (g i)) (i + 1)
theorem sc_done {g : Int → Int} {f : Nat} {need i e : Int} (h : sc g f need i = some e) (hn : need ≤ 0) : e = i := by
  cases f with
  | zero => unfold sc at h; rw [if_pos hn] at h; exact (Option.some.inj h).symm
  | succ f => unfold sc at h; rw [if_pos hn] at h; exact (Option.some.inj h).symm
theorem sc_none {g : Int → Int} {need i e : Int} (h : sc g 0 need i = some e) : need ≤ 0 := by
  unfold sc at h
  split at h
  · assumption
  · cases h
theorem sc_step {g : Int → Int} {f : Nat} {need i e c : Int} (h : sc g (f + 1) need i = some e) (hn : 0 < need) (hc : dlt (g i) = c) : sc g f (need + c) (i + 1) = some e := by
  unfold sc at h
  rw [if_neg (by omega), hc] at h
  exact h
set_option maxHeartbeats 4000000 in
set_option maxRecDepth 100000 in
theorem M_endOf_l {d : Nat} {A B : List va_E} {s : Nat → Int} {vl : Int64} {a : Nat → Int → Int} {nm : Nat → Int64} {Q : Option Value → List va_E → Nat → Nat → Prop} {x e : Int} (hA : A.length = 18) (hr : ∀ j, in32 (a 4 j)) : ∀ (f : Nat) (need i : Int), sc (a 4) f need i = some e → 0 ≤ i → i + f ≤ 12000 → 0 ≤ need → need + f ≤ 20000 → (∀ {r}, r = e → Q (some (.int (iI r))) (mh A s vl a nm B) 0 0) → pm_E none d pm_mm170 4 [(0, .ref 18), (1, .int (iI x)), (2, .int (iI need)), (3, .int (iI i))] [] (mh A s vl a nm B) 0 0 Q := by
  intro f
  induction f with
  | zero =>
    intro need i hs hi0 hi1 hn0 hn1 k
    have hq := sc_none hs
    refine pm_e_sim pm_a170_4 rfl ?_
    show pm_E _ _ _ 5 [(0, .ref 18), (1, .int (iI x)), (2, .int (iI need)), (3, .int (iI i))] [.int (iI need)] _ _ _ _
    refine pm_i_le (t := 45) pm_a170_5 rfl ⟨by omega, by omega⟩ (fun h_1 => ?_) (fun h_1 => ?_)
    · skip
      show pm_E _ _ _ 45 [(0, .ref 18), (1, .int (iI x)), (2, .int (iI need)), (3, .int (iI i))] [] _ _ _ _
      refine pm_e_sim pm_a170_45 rfl ?_
      show pm_E _ _ _ 46 [(0, .ref 18), (1, .int (iI x)), (2, .int (iI need)), (3, .int (iI i))] [.int (iI i)] _ _ _ _
      refine pm_e_ret pm_a170_46 rfl rfl rfl rfl rfl rfl rfl rfl ?_
      exact k (sc_done hs (by omega)).symm
    · skip
      exfalso; omega
  | succ f ih =>
    intro need i hs hi0 hi1 hn0 hn1 k
    have hr1 := hr i
    refine pm_e_sim pm_a170_4 rfl ?_
    show pm_E _ _ _ 5 [(0, .ref 18), (1, .int (iI x)), (2, .int (iI need)), (3, .int (iI i))] [.int (iI need)] _ _ _ _
    refine pm_i_le (t := 45) pm_a170_5 rfl ⟨by omega, by omega⟩ (fun h_1 => ?_) (fun h_1 => ?_)
    · skip
      show pm_E _ _ _ 45 [(0, .ref 18), (1, .int (iI x)), (2, .int (iI need)), (3, .int (iI i))] [] _ _ _ _
      refine pm_e_sim pm_a170_45 rfl ?_
      show pm_E _ _ _ 46 [(0, .ref 18), (1, .int (iI x)), (2, .int (iI need)), (3, .int (iI i))] [.int (iI i)] _ _ _ _
      refine pm_e_ret pm_a170_46 rfl rfl rfl rfl rfl rfl rfl rfl ?_
      exact k (sc_done hs (by omega)).symm
    · skip
      show pm_E _ _ _ 8 [(0, .ref 18), (1, .int (iI x)), (2, .int (iI need)), (3, .int (iI i))] [] _ _ _ _
      refine pm_e_sim pm_a170_8 rfl ?_
      show pm_E _ _ _ 9 [(0, .ref 18), (1, .int (iI x)), (2, .int (iI need)), (3, .int (iI i))] [.int (iI need)] _ _ _ _
      refine pm_e_sim pm_a170_9 rfl ?_
      show pm_E _ _ _ 10 [(0, .ref 18), (1, .int (iI x)), (2, .int (iI need)), (3, .int (iI i))] [.ref 18, .int (iI need)] _ _ _ _
      refine pm_i_get pm_a170_10 rfl (mh_get (j := 0) hA rfl) rfl ?_
      show pm_E _ _ _ 13 [(0, .ref 18), (1, .int (iI x)), (2, .int (iI need)), (3, .int (iI i))] [.ref 22, .int (iI need)] _ _ _ _
      refine pm_e_sim pm_a170_13 rfl ?_
      show pm_E _ _ _ 14 [(0, .ref 18), (1, .int (iI x)), (2, .int (iI need)), (3, .int (iI i))] [.int (iI i), .ref 22, .int (iI need)] _ _ _ _
      refine pm_i_ald pm_a170_14 (mh_get (j := 4) hA rfl) (by omega) (by omega) ⟨by omega, by omega⟩ ?_
      show pm_E _ _ _ 15 [(0, .ref 18), (1, .int (iI x)), (2, .int (iI need)), (3, .int (iI i))] [.int (iI ((a 4) (i))), .int (iI need)] _ _ _ _
      refine pm_i_ne (t := 22) pm_a170_15 rfl ⟨by omega, by omega⟩ (fun h_2 => ?_) (fun h_2 => ?_)
      · skip
        show pm_E _ _ _ 22 [(0, .ref 18), (1, .int (iI x)), (2, .int (iI need)), (3, .int (iI i))] [.int (iI need)] _ _ _ _
        refine pm_e_sim pm_a170_22 rfl ?_
        show pm_E _ _ _ 23 [(0, .ref 18), (1, .int (iI x)), (2, .int (iI need)), (3, .int (iI i))] [.ref 18, .int (iI need)] _ _ _ _
        refine pm_i_get pm_a170_23 rfl (mh_get (j := 0) hA rfl) rfl ?_
        show pm_E _ _ _ 26 [(0, .ref 18), (1, .int (iI x)), (2, .int (iI need)), (3, .int (iI i))] [.ref 22, .int (iI need)] _ _ _ _
        refine pm_e_sim pm_a170_26 rfl ?_
        show pm_E _ _ _ 27 [(0, .ref 18), (1, .int (iI x)), (2, .int (iI need)), (3, .int (iI i))] [.int (iI i), .ref 22, .int (iI need)] _ _ _ _
        refine pm_i_ald pm_a170_27 (mh_get (j := 4) hA rfl) (by omega) (by omega) ⟨by omega, by omega⟩ ?_
        show pm_E _ _ _ 28 [(0, .ref 18), (1, .int (iI x)), (2, .int (iI need)), (3, .int (iI i))] [.int (iI ((a 4) (i))), .int (iI need)] _ _ _ _
        refine pm_e_sim pm_a170_28 rfl ?_
        refine pm_e_top (y := iI 1) (by decide +kernel) ?_
        show pm_E _ _ _ 29 [(0, .ref 18), (1, .int (iI x)), (2, .int (iI need)), (3, .int (iI i))] [.int (iI 1), .int (iI ((a 4) (i))), .int (iI need)] _ _ _ _
        refine pm_c_ne (t := 36) pm_a170_29 rfl ⟨by omega, by omega⟩ ⟨by omega, by omega⟩ (fun h_3 => ?_) (fun h_3 => ?_)
        · skip
          show pm_E _ _ _ 36 [(0, .ref 18), (1, .int (iI x)), (2, .int (iI need)), (3, .int (iI i))] [.int (iI need)] _ _ _ _
          refine pm_e_sim pm_a170_36 rfl ?_
          refine pm_e_top (y := iI (-1)) (by decide +kernel) ?_
          show pm_E _ _ _ 37 [(0, .ref 18), (1, .int (iI x)), (2, .int (iI need)), (3, .int (iI i))] [.int (iI (-1)), .int (iI need)] _ _ _ _
          refine pm_e_sim pm_a170_37 rfl ?_
          refine pm_e_top (y := iI (need + (-1))) (iI_add _ _) ?_
          show pm_E _ _ _ 38 [(0, .ref 18), (1, .int (iI x)), (2, .int (iI need)), (3, .int (iI i))] [.int (iI (need + (-1)))] _ _ _ _
          refine pm_e_sim pm_a170_38 rfl ?_
          show pm_E _ _ _ 39 [(0, .ref 18), (1, .int (iI x)), (2, .int (iI (need + (-1)))), (3, .int (iI i))] [] _ _ _ _
          refine pm_e_inc (y := iI (i + 1)) pm_a170_39 rfl (iI_add _ _) (by decide +kernel) rfl ?_
          show pm_E _ _ _ 42 [(0, .ref 18), (1, .int (iI x)), (2, .int (iI (need + (-1)))), (3, .int (iI (i + 1)))] [] _ _ _ _
          refine pm_e_goto pm_a170_42 rfl ?_
          show pm_E _ _ _ 4 [(0, .ref 18), (1, .int (iI x)), (2, .int (iI (need + (-1)))), (3, .int (iI (i + 1)))] [] _ _ _ _
          exact ih (need + (-1)) (i + 1) (sc_step hs (by omega) (dlt_2 (by omega) (by omega))) (by omega) (by omega) (by omega) (by omega) k
        · skip
          show pm_E _ _ _ 32 [(0, .ref 18), (1, .int (iI x)), (2, .int (iI need)), (3, .int (iI i))] [.int (iI need)] _ _ _ _
          refine pm_e_sim pm_a170_32 rfl ?_
          refine pm_e_top (y := iI 0) (by decide +kernel) ?_
          show pm_E _ _ _ 33 [(0, .ref 18), (1, .int (iI x)), (2, .int (iI need)), (3, .int (iI i))] [.int (iI 0), .int (iI need)] _ _ _ _
          refine pm_e_goto pm_a170_33 rfl ?_
          show pm_E _ _ _ 37 [(0, .ref 18), (1, .int (iI x)), (2, .int (iI need)), (3, .int (iI i))] [.int (iI 0), .int (iI need)] _ _ _ _
          refine pm_e_sim pm_a170_37 rfl ?_
          refine pm_e_top (y := iI (need + 0)) (iI_add _ _) ?_
          show pm_E _ _ _ 38 [(0, .ref 18), (1, .int (iI x)), (2, .int (iI need)), (3, .int (iI i))] [.int (iI (need + 0))] _ _ _ _
          refine pm_e_sim pm_a170_38 rfl ?_
          show pm_E _ _ _ 39 [(0, .ref 18), (1, .int (iI x)), (2, .int (iI (need + 0))), (3, .int (iI i))] [] _ _ _ _
          refine pm_e_inc (y := iI (i + 1)) pm_a170_39 rfl (iI_add _ _) (by decide +kernel) rfl ?_
          show pm_E _ _ _ 42 [(0, .ref 18), (1, .int (iI x)), (2, .int (iI (need + 0))), (3, .int (iI (i + 1)))] [] _ _ _ _
          refine pm_e_goto pm_a170_42 rfl ?_
          show pm_E _ _ _ 4 [(0, .ref 18), (1, .int (iI x)), (2, .int (iI (need + 0))), (3, .int (iI (i + 1)))] [] _ _ _ _
          exact ih (need + 0) (i + 1) (sc_step hs (by omega) (dlt_1 (by omega))) (by omega) (by omega) (by omega) (by omega) k
      · skip
        show pm_E _ _ _ 18 [(0, .ref 18), (1, .int (iI x)), (2, .int (iI need)), (3, .int (iI i))] [.int (iI need)] _ _ _ _
        refine pm_e_sim pm_a170_18 rfl ?_
        refine pm_e_top (y := iI 1) (by decide +kernel) ?_
        show pm_E _ _ _ 19 [(0, .ref 18), (1, .int (iI x)), (2, .int (iI need)), (3, .int (iI i))] [.int (iI 1), .int (iI need)] _ _ _ _
        refine pm_e_goto pm_a170_19 rfl ?_
        show pm_E _ _ _ 37 [(0, .ref 18), (1, .int (iI x)), (2, .int (iI need)), (3, .int (iI i))] [.int (iI 1), .int (iI need)] _ _ _ _
        refine pm_e_sim pm_a170_37 rfl ?_
        refine pm_e_top (y := iI (need + 1)) (iI_add _ _) ?_
        show pm_E _ _ _ 38 [(0, .ref 18), (1, .int (iI x)), (2, .int (iI need)), (3, .int (iI i))] [.int (iI (need + 1))] _ _ _ _
        refine pm_e_sim pm_a170_38 rfl ?_
        show pm_E _ _ _ 39 [(0, .ref 18), (1, .int (iI x)), (2, .int (iI (need + 1))), (3, .int (iI i))] [] _ _ _ _
        refine pm_e_inc (y := iI (i + 1)) pm_a170_39 rfl (iI_add _ _) (by decide +kernel) rfl ?_
        show pm_E _ _ _ 42 [(0, .ref 18), (1, .int (iI x)), (2, .int (iI (need + 1))), (3, .int (iI (i + 1)))] [] _ _ _ _
        refine pm_e_goto pm_a170_42 rfl ?_
        show pm_E _ _ _ 4 [(0, .ref 18), (1, .int (iI x)), (2, .int (iI (need + 1))), (3, .int (iI (i + 1)))] [] _ _ _ _
        exact ih (need + 1) (i + 1) (sc_step hs (by omega) (dlt_0 (by omega))) (by omega) (by omega) (by omega) (by omega) k
set_option maxHeartbeats 4000000 in
set_option maxRecDepth 100000 in
theorem M_endOf {d : Nat} {A B : List va_E} {s : Nat → Int} {vl : Int64} {a : Nat → Int → Int} {nm : Nat → Int64} {Q : Option Value → List va_E → Nat → Nat → Prop} {x e : Int} {f : Nat} (hA : A.length = 18) (hr : ∀ j, in32 (a 4 j)) (hs : sc (a 4) f 1 x = some e) (hx0 : 0 ≤ x) (hx1 : x + f ≤ 12000) (k : Q (some (.int (iI e))) (mh A s vl a nm B) 0 0) : pm_E none d pm_mm170 0 [(0, .ref 18), (1, .int (iI x))] [] (mh A s vl a nm B) 0 0 Q := by
  refine pm_e_sim pm_a170_0 rfl ?_
  refine pm_e_top (y := iI 1) (by decide +kernel) ?_
  show pm_E _ _ _ 1 [(0, .ref 18), (1, .int (iI x))] [.int (iI 1)] _ _ _ _
  refine pm_e_sim pm_a170_1 rfl ?_
  show pm_E _ _ _ 2 [(0, .ref 18), (1, .int (iI x)), (2, .int (iI 1))] [] _ _ _ _
  refine pm_e_sim pm_a170_2 rfl ?_
  show pm_E _ _ _ 3 [(0, .ref 18), (1, .int (iI x)), (2, .int (iI 1))] [.int (iI x)] _ _ _ _
  refine pm_e_sim pm_a170_3 rfl ?_
  show pm_E _ _ _ 4 [(0, .ref 18), (1, .int (iI x)), (2, .int (iI 1)), (3, .int (iI x))] [] _ _ _ _
  exact M_endOf_l hA hr f 1 x hs (by omega) (by omega) (by omega) (by omega) (fun h => h ▸ k)
