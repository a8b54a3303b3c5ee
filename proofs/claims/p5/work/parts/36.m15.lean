/-! THE REFERENCE: addAll -/
/-- what stands in g from i to e laid behind the n that F has, as far as there is room -/
def adI (F g : Int → Int) (n i e : Int) : Int → Int := fun j => if n ≤ j ∧ j < n + (e - i) ∧ j < 12000 then g (i + (j - n)) else F j
theorem adI_0 {F g : Int → Int} {n i e : Int} (h : e ≤ i) : adI F g n i e = F := by
  funext z
  unfold adI
  rw [if_neg (by omega)]
theorem adI_y {F g : Int → Int} {n i e : Int} (h : i < e) (hn : n < 12000) : adI (updI F n (g i)) g (n + 1) (i + 1) e = adI F g n i e := by
  funext z
  unfold adI updI
  by_cases h1 : z = n
  · subst h1
    rw [if_neg (by omega), if_pos rfl, if_pos (by omega), show i + (z - z) = i by omega]
  · by_cases h2 : n + 1 ≤ z ∧ z < n + 1 + (e - (i + 1)) ∧ z < 12000
    · rw [if_pos h2, if_pos (by omega), show i + 1 + (z - (n + 1)) = i + (z - n) by omega]
    · rw [if_neg h2, if_neg h1, if_neg (by omega)]
theorem adI_n {F g : Int → Int} {n i e : Int} (h : i < e) (hn : 12000 ≤ n) : adI F g (n + 1) (i + 1) e = adI F g n i e := by
  funext z
  unfold adI
  rw [if_neg (by omega), if_neg (by omega)]
set_option maxHeartbeats 4000000 in
set_option maxRecDepth 100000 in
theorem M_addAll_l {d : Nat} {A B : List va_E} {s : Nat → Int} {vl : Int64} {a : Nat → Int → Int} {nm : Nat → Int64} {Q : Option Value → List va_E → Nat → Nat → Prop} {x e : Int} (hA : A.length = 18) (he : e ≤ 12000) : ∀ (f : Nat) (i n : Int) (F : Int → Int), 0 ≤ i → i + f = e → 0 ≤ n → n + f ≤ 1000000000 → e ≤ 12000 → Q none (mh A (updS s 28 (n + (e - i))) vl (updA a 15 (adI F (a 4) n i e)) nm B) 0 0 → pm_E none (d + 1) pm_mm184 2 [(0, .ref 18), (1, .int (iI x)), (2, .int (iI e)), (3, .int (iI i))] [] (mh A (updS s 28 n) vl (updA a 15 F) nm B) 0 0 Q := by
  intro f
  induction f with
  | zero =>
    intro i n F h0 h1 h2 h3 h4 k
    refine pm_e_sim pm_a184_2 rfl ?_
    show pm_E _ _ _ 3 [(0, .ref 18), (1, .int (iI x)), (2, .int (iI e)), (3, .int (iI i))] [.int (iI i)] _ _ _ _
    refine pm_e_sim pm_a184_3 rfl ?_
    show pm_E _ _ _ 4 [(0, .ref 18), (1, .int (iI x)), (2, .int (iI e)), (3, .int (iI i))] [.int (iI e), .int (iI i)] _ _ _ _
    refine pm_c_ge (t := 23) pm_a184_4 rfl ⟨by omega, by omega⟩ ⟨by omega, by omega⟩ (fun h_1 => ?_) (fun h_1 => ?_)
    · skip
      show pm_E _ _ _ 23 [(0, .ref 18), (1, .int (iI x)), (2, .int (iI e)), (3, .int (iI i))] [] _ _ _ _
      refine pm_e_ret pm_a184_23 rfl rfl rfl rfl rfl rfl rfl rfl ?_
      rw [adI_0 (by omega), show n + (e - i) = n by omega] at k
      exact k
    · skip
      exfalso; omega
  | succ f ih =>
    intro i n F h0 h1 h2 h3 h4 k
    refine pm_e_sim pm_a184_2 rfl ?_
    show pm_E _ _ _ 3 [(0, .ref 18), (1, .int (iI x)), (2, .int (iI e)), (3, .int (iI i))] [.int (iI i)] _ _ _ _
    refine pm_e_sim pm_a184_3 rfl ?_
    show pm_E _ _ _ 4 [(0, .ref 18), (1, .int (iI x)), (2, .int (iI e)), (3, .int (iI i))] [.int (iI e), .int (iI i)] _ _ _ _
    refine pm_c_ge (t := 23) pm_a184_4 rfl ⟨by omega, by omega⟩ ⟨by omega, by omega⟩ (fun h_1 => ?_) (fun h_1 => ?_)
    · skip
      exfalso; omega
    · skip
      show pm_E _ _ _ 7 [(0, .ref 18), (1, .int (iI x)), (2, .int (iI e)), (3, .int (iI i))] [] _ _ _ _
      refine pm_e_sim pm_a184_7 rfl ?_
      show pm_E _ _ _ 8 [(0, .ref 18), (1, .int (iI x)), (2, .int (iI e)), (3, .int (iI i))] [.ref 18] _ _ _ _
      refine pm_e_sim pm_a184_8 rfl ?_
      show pm_E _ _ _ 9 [(0, .ref 18), (1, .int (iI x)), (2, .int (iI e)), (3, .int (iI i))] [.ref 18, .ref 18] _ _ _ _
      refine pm_i_get pm_a184_9 rfl (mh_get (j := 0) hA rfl) rfl ?_
      show pm_E _ _ _ 12 [(0, .ref 18), (1, .int (iI x)), (2, .int (iI e)), (3, .int (iI i))] [.ref 22, .ref 18] _ _ _ _
      refine pm_e_sim pm_a184_12 rfl ?_
      show pm_E _ _ _ 13 [(0, .ref 18), (1, .int (iI x)), (2, .int (iI e)), (3, .int (iI i))] [.int (iI i), .ref 22, .ref 18] _ _ _ _
      refine pm_i_ald pm_a184_13 (mh_get (j := 4) hA rfl) (by omega) (by omega) ⟨by omega, by omega⟩ ?_
      show pm_E _ _ _ 14 [(0, .ref 18), (1, .int (iI x)), (2, .int (iI e)), (3, .int (iI i))] [.int (iI ((a 4) (i))), .ref 18] _ _ _ _
      refine pm_i_callv (k := 18) (T2 := pm_mm185) pm_a184_14 rfl rfl rfl (mh_get (j := 0) hA rfl) ⟨Nat.le_of_ble_eq_true rfl, Nat.le_of_ble_eq_true rfl, rfl, by decide +kernel⟩ ?_
      show pm_E none _ _ 0 [(0, .ref 18), (1, .int (iI ((a 4) (i))))] [] _ _ _ _
      refine M_add (s := updS s 28 n) (a := updA a 15 F) hA (show 0 ≤ n by omega) (show n ≤ 1000000000 by omega) (fun h_2 => ?_) (fun h_2 => ?_)
      · skip
        replace h_2 : n < 12000 := h_2
        refine pm_e_heap (show _ = mh A (updS s 28 (n + 1)) vl (updA a 15 (updI F n ((a 4) (i)))) nm B from by rw [updS_s, updA_s]; rfl) ?_
        show pm_E _ _ _ 17 [(0, .ref 18), (1, .int (iI x)), (2, .int (iI e)), (3, .int (iI i))] [] _ _ _ _
        refine pm_e_inc (y := iI (i + 1)) pm_a184_17 rfl (iI_add _ _) (by decide +kernel) rfl ?_
        show pm_E _ _ _ 20 [(0, .ref 18), (1, .int (iI x)), (2, .int (iI e)), (3, .int (iI (i + 1)))] [] _ _ _ _
        refine pm_e_goto pm_a184_20 rfl ?_
        show pm_E _ _ _ 2 [(0, .ref 18), (1, .int (iI x)), (2, .int (iI e)), (3, .int (iI (i + 1)))] [] _ _ _ _
        refine ih (i + 1) (n + 1) _ (by omega) (by omega) (by omega) (by omega) (by omega) ?_
        rw [adI_y (by omega) (by omega), show n + 1 + (e - (i + 1)) = n + (e - i) by omega]
        exact k
      · skip
        replace h_2 : 12000 ≤ n := h_2
        refine pm_e_heap (show _ = mh A (updS s 28 (n + 1)) vl (updA a 15 F) nm B from by rw [updS_s]; rfl) ?_
        show pm_E _ _ _ 17 [(0, .ref 18), (1, .int (iI x)), (2, .int (iI e)), (3, .int (iI i))] [] _ _ _ _
        refine pm_e_inc (y := iI (i + 1)) pm_a184_17 rfl (iI_add _ _) (by decide +kernel) rfl ?_
        show pm_E _ _ _ 20 [(0, .ref 18), (1, .int (iI x)), (2, .int (iI e)), (3, .int (iI (i + 1)))] [] _ _ _ _
        refine pm_e_goto pm_a184_20 rfl ?_
        show pm_E _ _ _ 2 [(0, .ref 18), (1, .int (iI x)), (2, .int (iI e)), (3, .int (iI (i + 1)))] [] _ _ _ _
        refine ih (i + 1) (n + 1) _ (by omega) (by omega) (by omega) (by omega) (by omega) ?_
        rw [adI_n (by omega) (by omega), show n + 1 + (e - (i + 1)) = n + (e - i) by omega]
        exact k
