/-! THE REFERENCE: endOf and depths over one term; addMore, addLess -/
theorem M_endT {d : Nat} {A B : List va_E} {s : Nat → Int} {vl : Int64} {a : Nat → Int → Int} {nm : Nat → Int64} {Q : Option Value → List va_E → Nat → Nat → Prop} {x e k0 : Int} {f : Nat} (hA : A.length = 18) (hr : ∀ j, in32 (a 4 j)) (ht : tm (a 4) f k0 x e) (hx0 : 0 ≤ x) (he : e ≤ 12000) (k : Q (some (.int (iI e))) (mh A s vl a nm B) 0 0) : pm_E none d pm_mm170 0 [(0, .ref 18), (1, .int (iI x))] [] (mh A s vl a nm B) 0 0 Q := by
  have := tm_lt ht
  exact M_endOf hA hr (tm_end ht (Nat.le_refl _)) hx0 (by omega) k
theorem M_depT {d : Nat} {A B : List va_E} {s : Nat → Int} {vl : Int64} {a : Nat → Int → Int} {nm : Nat → Int64} {Q : Option Value → List va_E → Nat → Nat → Prop} {x e k0 : Int} {f : Nat} (hA : A.length = 18) (hr : ∀ j, in32 (a 4 j)) (ht : tm (a 4) f k0 x e) (hx0 : 0 ≤ x) (he : e ≤ 11900) (k : ∀ P D, (∀ j, j < x ∨ e ≤ j → D j = a 5 j) → dp (a 4) D f 0 x e → Q none (mh A s vl (updA (updA a 5 D) 6 P) nm B) 0 0) : pm_E none d pm_mm171 0 [(0, .ref 18), (1, .int (iI x))] [] (mh A s vl a nm B) 0 0 Q := by
  have := tm_lt ht
  obtain ⟨P, D, e1, p1, d1, s1⟩ := tm_dpr ht ((e - x).toNat + 1) 1 (updI (a 6) 0 0) (a 5) (by omega) (by omega)
  refine M_depths hA hr (tm_end ht (Nat.le_succ _)) hx0 (by omega) (by omega) ?_
  rw [e1, dpr_done (by omega)]
  refine k P D d1 ?_
  rw [show (1 : Int) - 1 = 0 from rfl, updI_s] at s1
  exact s1
/-- variables that are bound outside raised by m; all variables lowered by one -/
def rsI (g q : Int → Int) (m : Int) : Int → Int := fun j => if 9 < g j ∧ q j ≤ g j - 10 then g j + m else g j
theorem rsI_y {g q : Int → Int} {m j : Int} (h : 9 < g j) (h1 : q j ≤ g j - 10) : g j + m = rsI g q m j := by unfold rsI; rw [if_pos ⟨h, h1⟩]
theorem rsI_n {g q : Int → Int} {m j : Int} (h : g j ≤ 9 ∨ g j - 10 < q j) : g j = rsI g q m j := by unfold rsI; rw [if_neg (by omega)]
def lsI (g : Int → Int) : Int → Int := fun j => if 9 < g j then g j - 1 else g j
theorem lsI_y {g : Int → Int} {j : Int} (h : 9 < g j) : g j - 1 = lsI g j := by unfold lsI; rw [if_pos h]
theorem lsI_n {g : Int → Int} {j : Int} (h : g j ≤ 9) : g j = lsI g j := by unfold lsI; rw [if_neg (by omega)]
set_option maxHeartbeats 4000000 in
set_option maxRecDepth 100000 in
theorem M_addMore_l {d : Nat} {A B : List va_E} {s : Nat → Int} {vl : Int64} {a : Nat → Int → Int} {nm : Nat → Int64} {Q : Option Value → List va_E → Nat → Nat → Prop} {x e m : Int} (hA : A.length = 18) (he : e ≤ 12000) (hb : ∀ j, x ≤ j → j < e → 0 ≤ a 4 j ∧ a 4 j ≤ 100000) (hq : ∀ j, in32 (a 16 j)) : ∀ (f : Nat) (i n : Int) (F : Int → Int), 0 ≤ x ∧ x ≤ i → i + f = e → 0 ≤ n → n + f ≤ 1000000000 → Q none (mh A (updS s 28 (n + (e - i))) vl (updA a 15 (adI F (rsI (a 4) (a 16) m) n i e)) nm B) 0 0 → pm_E none (d + 1) pm_mm187 3 [(0, .ref 18), (1, .int (iI x)), (2, .int (iI e)), (3, .int (iI m)), (4, .int (iI i))] [] (mh A (updS s 28 n) vl (updA a 15 F) nm B) 0 0 Q := by
  intro f
  induction f with
  | zero =>
    intro i n F h0 h1 h2 h3 k
    refine pm_e_sim pm_a187_3 rfl ?_
    show pm_E _ _ _ 5 [(0, .ref 18), (1, .int (iI x)), (2, .int (iI e)), (3, .int (iI m)), (4, .int (iI i))] [.int (iI i)] _ _ _ _
    refine pm_e_sim pm_a187_5 rfl ?_
    show pm_E _ _ _ 6 [(0, .ref 18), (1, .int (iI x)), (2, .int (iI e)), (3, .int (iI m)), (4, .int (iI i))] [.int (iI e), .int (iI i)] _ _ _ _
    refine pm_c_ge (t := 70) pm_a187_6 rfl ⟨by omega, by omega⟩ ⟨by omega, by omega⟩ (fun h_1 => ?_) (fun h_1 => ?_)
    · skip
      show pm_E _ _ _ 70 [(0, .ref 18), (1, .int (iI x)), (2, .int (iI e)), (3, .int (iI m)), (4, .int (iI i))] [] _ _ _ _
      refine pm_e_ret pm_a187_70 rfl rfl rfl rfl rfl rfl rfl rfl ?_
      rw [adI_0 (by omega), show n + (e - i) = n by omega] at k
      exact k
    · skip
      exfalso; omega
  | succ f ih =>
    intro i n F h0 h1 h2 h3 k
    have b0 := hb i (by omega) (by omega)
    obtain ⟨q0, q1⟩ := hq i
    refine pm_e_sim pm_a187_3 rfl ?_
    show pm_E _ _ _ 5 [(0, .ref 18), (1, .int (iI x)), (2, .int (iI e)), (3, .int (iI m)), (4, .int (iI i))] [.int (iI i)] _ _ _ _
    refine pm_e_sim pm_a187_5 rfl ?_
    show pm_E _ _ _ 6 [(0, .ref 18), (1, .int (iI x)), (2, .int (iI e)), (3, .int (iI m)), (4, .int (iI i))] [.int (iI e), .int (iI i)] _ _ _ _
    refine pm_c_ge (t := 70) pm_a187_6 rfl ⟨by omega, by omega⟩ ⟨by omega, by omega⟩ (fun h_1 => ?_) (fun h_1 => ?_)
    · skip
      exfalso; omega
    · skip
      show pm_E _ _ _ 9 [(0, .ref 18), (1, .int (iI x)), (2, .int (iI e)), (3, .int (iI m)), (4, .int (iI i))] [] _ _ _ _
      refine pm_e_sim pm_a187_9 rfl ?_
      show pm_E _ _ _ 10 [(0, .ref 18), (1, .int (iI x)), (2, .int (iI e)), (3, .int (iI m)), (4, .int (iI i))] [.ref 18] _ _ _ _
      refine pm_e_sim pm_a187_10 rfl ?_
      show pm_E _ _ _ 11 [(0, .ref 18), (1, .int (iI x)), (2, .int (iI e)), (3, .int (iI m)), (4, .int (iI i))] [.ref 18, .ref 18] _ _ _ _
      refine pm_i_get pm_a187_11 rfl (mh_get (j := 0) hA rfl) rfl ?_
      show pm_E _ _ _ 14 [(0, .ref 18), (1, .int (iI x)), (2, .int (iI e)), (3, .int (iI m)), (4, .int (iI i))] [.ref 22, .ref 18] _ _ _ _
      refine pm_e_sim pm_a187_14 rfl ?_
      show pm_E _ _ _ 16 [(0, .ref 18), (1, .int (iI x)), (2, .int (iI e)), (3, .int (iI m)), (4, .int (iI i))] [.int (iI i), .ref 22, .ref 18] _ _ _ _
      refine pm_i_ald pm_a187_16 (mh_get (j := 4) hA rfl) (by omega) (by omega) ⟨by omega, by omega⟩ ?_
      show pm_E _ _ _ 17 [(0, .ref 18), (1, .int (iI x)), (2, .int (iI e)), (3, .int (iI m)), (4, .int (iI i))] [.int (iI ((a 4) (i))), .ref 18] _ _ _ _
      refine pm_e_sim pm_a187_17 rfl ?_
      refine pm_e_top (y := iI 9) (by decide +kernel) ?_
      show pm_E _ _ _ 19 [(0, .ref 18), (1, .int (iI x)), (2, .int (iI e)), (3, .int (iI m)), (4, .int (iI i))] [.int (iI 9), .int (iI ((a 4) (i))), .ref 18] _ _ _ _
      refine pm_c_le (t := 54) pm_a187_19 rfl ⟨by omega, by omega⟩ ⟨by omega, by omega⟩ (fun h_2 => ?_) (fun h_2 => ?_)
      · skip
        show pm_E _ _ _ 54 [(0, .ref 18), (1, .int (iI x)), (2, .int (iI e)), (3, .int (iI m)), (4, .int (iI i))] [.ref 18] _ _ _ _
        refine pm_e_sim pm_a187_54 rfl ?_
        show pm_E _ _ _ 55 [(0, .ref 18), (1, .int (iI x)), (2, .int (iI e)), (3, .int (iI m)), (4, .int (iI i))] [.ref 18, .ref 18] _ _ _ _
        refine pm_i_get pm_a187_55 rfl (mh_get (j := 0) hA rfl) rfl ?_
        show pm_E _ _ _ 58 [(0, .ref 18), (1, .int (iI x)), (2, .int (iI e)), (3, .int (iI m)), (4, .int (iI i))] [.ref 22, .ref 18] _ _ _ _
        refine pm_e_sim pm_a187_58 rfl ?_
        show pm_E _ _ _ 60 [(0, .ref 18), (1, .int (iI x)), (2, .int (iI e)), (3, .int (iI m)), (4, .int (iI i))] [.int (iI i), .ref 22, .ref 18] _ _ _ _
        refine pm_i_ald pm_a187_60 (mh_get (j := 4) hA rfl) (by omega) (by omega) ⟨by omega, by omega⟩ ?_
        show pm_E _ _ _ 61 [(0, .ref 18), (1, .int (iI x)), (2, .int (iI e)), (3, .int (iI m)), (4, .int (iI i))] [.int (iI ((a 4) (i))), .ref 18] _ _ _ _
        refine pm_i_callv (k := 18) (T2 := pm_mm185) pm_a187_61 rfl rfl rfl (mh_get (j := 0) hA rfl) ⟨Nat.le_of_ble_eq_true rfl, Nat.le_of_ble_eq_true rfl, rfl, by decide +kernel⟩ ?_
        show pm_E none _ _ 0 [(0, .ref 18), (1, .int (iI ((a 4) (i))))] [] _ _ _ _
        refine M_add (s := updS s 28 n) (a := updA a 15 F) hA (show 0 ≤ n by omega) (show n ≤ 1000000000 by omega) (fun h_3 => ?_) (fun h_3 => ?_)
        · skip
          replace h_3 : n < 12000 := h_3
          refine pm_e_heap (show _ = mh A (updS s 28 (n + 1)) vl (updA a 15 (updI F n ((a 4) (i)))) nm B from by rw [updS_s, updA_s]; rfl) ?_
          show pm_E _ _ _ 64 [(0, .ref 18), (1, .int (iI x)), (2, .int (iI e)), (3, .int (iI m)), (4, .int (iI i))] [] _ _ _ _
          refine pm_e_inc (y := iI (i + 1)) pm_a187_64 rfl (iI_add _ _) (by decide +kernel) rfl ?_
          show pm_E _ _ _ 67 [(0, .ref 18), (1, .int (iI x)), (2, .int (iI e)), (3, .int (iI m)), (4, .int (iI (i + 1)))] [] _ _ _ _
          refine pm_e_goto pm_a187_67 rfl ?_
          show pm_E _ _ _ 3 [(0, .ref 18), (1, .int (iI x)), (2, .int (iI e)), (3, .int (iI m)), (4, .int (iI (i + 1)))] [] _ _ _ _
          refine ih (i + 1) (n + 1) _ (by omega) (by omega) (by omega) (by omega) ?_
          rw [show ((a 4) (i)) = rsI (a 4) (a 16) m i from rsI_n (by omega), adI_y (by omega) (by omega), show n + 1 + (e - (i + 1)) = n + (e - i) by omega]
          exact k
        · skip
          replace h_3 : 12000 ≤ n := h_3
          refine pm_e_heap (show _ = mh A (updS s 28 (n + 1)) vl (updA a 15 F) nm B from by rw [updS_s]; rfl) ?_
          show pm_E _ _ _ 64 [(0, .ref 18), (1, .int (iI x)), (2, .int (iI e)), (3, .int (iI m)), (4, .int (iI i))] [] _ _ _ _
          refine pm_e_inc (y := iI (i + 1)) pm_a187_64 rfl (iI_add _ _) (by decide +kernel) rfl ?_
          show pm_E _ _ _ 67 [(0, .ref 18), (1, .int (iI x)), (2, .int (iI e)), (3, .int (iI m)), (4, .int (iI (i + 1)))] [] _ _ _ _
          refine pm_e_goto pm_a187_67 rfl ?_
          show pm_E _ _ _ 3 [(0, .ref 18), (1, .int (iI x)), (2, .int (iI e)), (3, .int (iI m)), (4, .int (iI (i + 1)))] [] _ _ _ _
          refine ih (i + 1) (n + 1) _ (by omega) (by omega) (by omega) (by omega) ?_
          rw [adI_n (by omega) (by omega), show n + 1 + (e - (i + 1)) = n + (e - i) by omega]
          exact k
      · skip
        show pm_E _ _ _ 22 [(0, .ref 18), (1, .int (iI x)), (2, .int (iI e)), (3, .int (iI m)), (4, .int (iI i))] [.ref 18] _ _ _ _
        refine pm_e_sim pm_a187_22 rfl ?_
        show pm_E _ _ _ 23 [(0, .ref 18), (1, .int (iI x)), (2, .int (iI e)), (3, .int (iI m)), (4, .int (iI i))] [.ref 18, .ref 18] _ _ _ _
        refine pm_i_get pm_a187_23 rfl (mh_get (j := 0) hA rfl) rfl ?_
        show pm_E _ _ _ 26 [(0, .ref 18), (1, .int (iI x)), (2, .int (iI e)), (3, .int (iI m)), (4, .int (iI i))] [.ref 22, .ref 18] _ _ _ _
        refine pm_e_sim pm_a187_26 rfl ?_
        show pm_E _ _ _ 28 [(0, .ref 18), (1, .int (iI x)), (2, .int (iI e)), (3, .int (iI m)), (4, .int (iI i))] [.int (iI i), .ref 22, .ref 18] _ _ _ _
        refine pm_i_ald pm_a187_28 (mh_get (j := 4) hA rfl) (by omega) (by omega) ⟨by omega, by omega⟩ ?_
        show pm_E _ _ _ 29 [(0, .ref 18), (1, .int (iI x)), (2, .int (iI e)), (3, .int (iI m)), (4, .int (iI i))] [.int (iI ((a 4) (i))), .ref 18] _ _ _ _
        refine pm_e_sim pm_a187_29 rfl ?_
        refine pm_e_top (y := iI 10) (by decide +kernel) ?_
        show pm_E _ _ _ 31 [(0, .ref 18), (1, .int (iI x)), (2, .int (iI e)), (3, .int (iI m)), (4, .int (iI i))] [.int (iI 10), .int (iI ((a 4) (i))), .ref 18] _ _ _ _
        refine pm_e_sim pm_a187_31 rfl ?_
        refine pm_e_top (y := iI ((a 4) (i) - 10)) (iI_sub _ _) ?_
        show pm_E _ _ _ 32 [(0, .ref 18), (1, .int (iI x)), (2, .int (iI e)), (3, .int (iI m)), (4, .int (iI i))] [.int (iI ((a 4) (i) - 10)), .ref 18] _ _ _ _
        refine pm_e_sim pm_a187_32 rfl ?_
        show pm_E _ _ _ 33 [(0, .ref 18), (1, .int (iI x)), (2, .int (iI e)), (3, .int (iI m)), (4, .int (iI i))] [.ref 18, .int (iI ((a 4) (i) - 10)), .ref 18] _ _ _ _
        refine pm_i_get pm_a187_33 rfl (mh_get (j := 0) hA rfl) rfl ?_
        show pm_E _ _ _ 36 [(0, .ref 18), (1, .int (iI x)), (2, .int (iI e)), (3, .int (iI m)), (4, .int (iI i))] [.ref 34, .int (iI ((a 4) (i) - 10)), .ref 18] _ _ _ _
        refine pm_e_sim pm_a187_36 rfl ?_
        show pm_E _ _ _ 38 [(0, .ref 18), (1, .int (iI x)), (2, .int (iI e)), (3, .int (iI m)), (4, .int (iI i))] [.int (iI i), .ref 34, .int (iI ((a 4) (i) - 10)), .ref 18] _ _ _ _
        refine pm_i_ald pm_a187_38 (mh_get (j := 16) hA rfl) (by omega) (by omega) ⟨by omega, by omega⟩ ?_
        show pm_E _ _ _ 39 [(0, .ref 18), (1, .int (iI x)), (2, .int (iI e)), (3, .int (iI m)), (4, .int (iI i))] [.int (iI ((a 16) (i))), .int (iI ((a 4) (i) - 10)), .ref 18] _ _ _ _
        refine pm_c_lt (t := 54) pm_a187_39 rfl ⟨by omega, by omega⟩ ⟨by omega, by omega⟩ (fun h_4 => ?_) (fun h_4 => ?_)
        · skip
          show pm_E _ _ _ 54 [(0, .ref 18), (1, .int (iI x)), (2, .int (iI e)), (3, .int (iI m)), (4, .int (iI i))] [.ref 18] _ _ _ _
          refine pm_e_sim pm_a187_54 rfl ?_
          show pm_E _ _ _ 55 [(0, .ref 18), (1, .int (iI x)), (2, .int (iI e)), (3, .int (iI m)), (4, .int (iI i))] [.ref 18, .ref 18] _ _ _ _
          refine pm_i_get pm_a187_55 rfl (mh_get (j := 0) hA rfl) rfl ?_
          show pm_E _ _ _ 58 [(0, .ref 18), (1, .int (iI x)), (2, .int (iI e)), (3, .int (iI m)), (4, .int (iI i))] [.ref 22, .ref 18] _ _ _ _
          refine pm_e_sim pm_a187_58 rfl ?_
          show pm_E _ _ _ 60 [(0, .ref 18), (1, .int (iI x)), (2, .int (iI e)), (3, .int (iI m)), (4, .int (iI i))] [.int (iI i), .ref 22, .ref 18] _ _ _ _
          refine pm_i_ald pm_a187_60 (mh_get (j := 4) hA rfl) (by omega) (by omega) ⟨by omega, by omega⟩ ?_
          show pm_E _ _ _ 61 [(0, .ref 18), (1, .int (iI x)), (2, .int (iI e)), (3, .int (iI m)), (4, .int (iI i))] [.int (iI ((a 4) (i))), .ref 18] _ _ _ _
          refine pm_i_callv (k := 18) (T2 := pm_mm185) pm_a187_61 rfl rfl rfl (mh_get (j := 0) hA rfl) ⟨Nat.le_of_ble_eq_true rfl, Nat.le_of_ble_eq_true rfl, rfl, by decide +kernel⟩ ?_
          show pm_E none _ _ 0 [(0, .ref 18), (1, .int (iI ((a 4) (i))))] [] _ _ _ _
          refine M_add (s := updS s 28 n) (a := updA a 15 F) hA (show 0 ≤ n by omega) (show n ≤ 1000000000 by omega) (fun h_5 => ?_) (fun h_5 => ?_)
          · skip
            replace h_5 : n < 12000 := h_5
            refine pm_e_heap (show _ = mh A (updS s 28 (n + 1)) vl (updA a 15 (updI F n ((a 4) (i)))) nm B from by rw [updS_s, updA_s]; rfl) ?_
            show pm_E _ _ _ 64 [(0, .ref 18), (1, .int (iI x)), (2, .int (iI e)), (3, .int (iI m)), (4, .int (iI i))] [] _ _ _ _
            refine pm_e_inc (y := iI (i + 1)) pm_a187_64 rfl (iI_add _ _) (by decide +kernel) rfl ?_
            show pm_E _ _ _ 67 [(0, .ref 18), (1, .int (iI x)), (2, .int (iI e)), (3, .int (iI m)), (4, .int (iI (i + 1)))] [] _ _ _ _
            refine pm_e_goto pm_a187_67 rfl ?_
            show pm_E _ _ _ 3 [(0, .ref 18), (1, .int (iI x)), (2, .int (iI e)), (3, .int (iI m)), (4, .int (iI (i + 1)))] [] _ _ _ _
            refine ih (i + 1) (n + 1) _ (by omega) (by omega) (by omega) (by omega) ?_
            rw [show ((a 4) (i)) = rsI (a 4) (a 16) m i from rsI_n (by omega), adI_y (by omega) (by omega), show n + 1 + (e - (i + 1)) = n + (e - i) by omega]
            exact k
          · skip
            replace h_5 : 12000 ≤ n := h_5
            refine pm_e_heap (show _ = mh A (updS s 28 (n + 1)) vl (updA a 15 F) nm B from by rw [updS_s]; rfl) ?_
            show pm_E _ _ _ 64 [(0, .ref 18), (1, .int (iI x)), (2, .int (iI e)), (3, .int (iI m)), (4, .int (iI i))] [] _ _ _ _
            refine pm_e_inc (y := iI (i + 1)) pm_a187_64 rfl (iI_add _ _) (by decide +kernel) rfl ?_
            show pm_E _ _ _ 67 [(0, .ref 18), (1, .int (iI x)), (2, .int (iI e)), (3, .int (iI m)), (4, .int (iI (i + 1)))] [] _ _ _ _
            refine pm_e_goto pm_a187_67 rfl ?_
            show pm_E _ _ _ 3 [(0, .ref 18), (1, .int (iI x)), (2, .int (iI e)), (3, .int (iI m)), (4, .int (iI (i + 1)))] [] _ _ _ _
            refine ih (i + 1) (n + 1) _ (by omega) (by omega) (by omega) (by omega) ?_
            rw [adI_n (by omega) (by omega), show n + 1 + (e - (i + 1)) = n + (e - i) by omega]
            exact k
        · skip
          show pm_E _ _ _ 42 [(0, .ref 18), (1, .int (iI x)), (2, .int (iI e)), (3, .int (iI m)), (4, .int (iI i))] [.ref 18] _ _ _ _
          refine pm_e_sim pm_a187_42 rfl ?_
          show pm_E _ _ _ 43 [(0, .ref 18), (1, .int (iI x)), (2, .int (iI e)), (3, .int (iI m)), (4, .int (iI i))] [.ref 18, .ref 18] _ _ _ _
          refine pm_i_get pm_a187_43 rfl (mh_get (j := 0) hA rfl) rfl ?_
          show pm_E _ _ _ 46 [(0, .ref 18), (1, .int (iI x)), (2, .int (iI e)), (3, .int (iI m)), (4, .int (iI i))] [.ref 22, .ref 18] _ _ _ _
          refine pm_e_sim pm_a187_46 rfl ?_
          show pm_E _ _ _ 48 [(0, .ref 18), (1, .int (iI x)), (2, .int (iI e)), (3, .int (iI m)), (4, .int (iI i))] [.int (iI i), .ref 22, .ref 18] _ _ _ _
          refine pm_i_ald pm_a187_48 (mh_get (j := 4) hA rfl) (by omega) (by omega) ⟨by omega, by omega⟩ ?_
          show pm_E _ _ _ 49 [(0, .ref 18), (1, .int (iI x)), (2, .int (iI e)), (3, .int (iI m)), (4, .int (iI i))] [.int (iI ((a 4) (i))), .ref 18] _ _ _ _
          refine pm_e_sim pm_a187_49 rfl ?_
          show pm_E _ _ _ 50 [(0, .ref 18), (1, .int (iI x)), (2, .int (iI e)), (3, .int (iI m)), (4, .int (iI i))] [.int (iI m), .int (iI ((a 4) (i))), .ref 18] _ _ _ _
          refine pm_e_sim pm_a187_50 rfl ?_
          refine pm_e_top (y := iI ((a 4) (i) + m)) (iI_add _ _) ?_
          show pm_E _ _ _ 51 [(0, .ref 18), (1, .int (iI x)), (2, .int (iI e)), (3, .int (iI m)), (4, .int (iI i))] [.int (iI ((a 4) (i) + m)), .ref 18] _ _ _ _
          refine pm_e_goto pm_a187_51 rfl ?_
          show pm_E _ _ _ 61 [(0, .ref 18), (1, .int (iI x)), (2, .int (iI e)), (3, .int (iI m)), (4, .int (iI i))] [.int (iI ((a 4) (i) + m)), .ref 18] _ _ _ _
          refine pm_i_callv (k := 18) (T2 := pm_mm185) pm_a187_61 rfl rfl rfl (mh_get (j := 0) hA rfl) ⟨Nat.le_of_ble_eq_true rfl, Nat.le_of_ble_eq_true rfl, rfl, by decide +kernel⟩ ?_
          show pm_E none _ _ 0 [(0, .ref 18), (1, .int (iI ((a 4) (i) + m)))] [] _ _ _ _
          refine M_add (s := updS s 28 n) (a := updA a 15 F) hA (show 0 ≤ n by omega) (show n ≤ 1000000000 by omega) (fun h_6 => ?_) (fun h_6 => ?_)
          · skip
            replace h_6 : n < 12000 := h_6
            refine pm_e_heap (show _ = mh A (updS s 28 (n + 1)) vl (updA a 15 (updI F n ((a 4) (i) + m))) nm B from by rw [updS_s, updA_s]; rfl) ?_
            show pm_E _ _ _ 64 [(0, .ref 18), (1, .int (iI x)), (2, .int (iI e)), (3, .int (iI m)), (4, .int (iI i))] [] _ _ _ _
            refine pm_e_inc (y := iI (i + 1)) pm_a187_64 rfl (iI_add _ _) (by decide +kernel) rfl ?_
            show pm_E _ _ _ 67 [(0, .ref 18), (1, .int (iI x)), (2, .int (iI e)), (3, .int (iI m)), (4, .int (iI (i + 1)))] [] _ _ _ _
            refine pm_e_goto pm_a187_67 rfl ?_
            show pm_E _ _ _ 3 [(0, .ref 18), (1, .int (iI x)), (2, .int (iI e)), (3, .int (iI m)), (4, .int (iI (i + 1)))] [] _ _ _ _
            refine ih (i + 1) (n + 1) _ (by omega) (by omega) (by omega) (by omega) ?_
            rw [show ((a 4) (i) + m) = rsI (a 4) (a 16) m i from rsI_y (by omega) (by omega), adI_y (by omega) (by omega), show n + 1 + (e - (i + 1)) = n + (e - i) by omega]
            exact k
          · skip
            replace h_6 : 12000 ≤ n := h_6
            refine pm_e_heap (show _ = mh A (updS s 28 (n + 1)) vl (updA a 15 F) nm B from by rw [updS_s]; rfl) ?_
            show pm_E _ _ _ 64 [(0, .ref 18), (1, .int (iI x)), (2, .int (iI e)), (3, .int (iI m)), (4, .int (iI i))] [] _ _ _ _
            refine pm_e_inc (y := iI (i + 1)) pm_a187_64 rfl (iI_add _ _) (by decide +kernel) rfl ?_
            show pm_E _ _ _ 67 [(0, .ref 18), (1, .int (iI x)), (2, .int (iI e)), (3, .int (iI m)), (4, .int (iI (i + 1)))] [] _ _ _ _
            refine pm_e_goto pm_a187_67 rfl ?_
            show pm_E _ _ _ 3 [(0, .ref 18), (1, .int (iI x)), (2, .int (iI e)), (3, .int (iI m)), (4, .int (iI (i + 1)))] [] _ _ _ _
            refine ih (i + 1) (n + 1) _ (by omega) (by omega) (by omega) (by omega) ?_
            rw [adI_n (by omega) (by omega), show n + 1 + (e - (i + 1)) = n + (e - i) by omega]
            exact k
set_option maxHeartbeats 4000000 in
set_option maxRecDepth 100000 in
theorem M_addMore {d : Nat} {A B : List va_E} {s : Nat → Int} {vl : Int64} {a : Nat → Int → Int} {nm : Nat → Int64} {Q : Option Value → List va_E → Nat → Nat → Prop} {x e m : Int} (hA : A.length = 18) (hx : 0 ≤ x) (hxe : x ≤ e) (he : e ≤ 12000) (hb : ∀ j, x ≤ j → j < e → 0 ≤ a 4 j ∧ a 4 j ≤ 100000) (hq : ∀ j, in32 (a 16 j)) (h0 : 0 ≤ s 28) (h1 : s 28 ≤ 900000000) (k : Q none (mh A (updS s 28 (s 28 + (e - x))) vl (updA a 15 (adI (a 15) (rsI (a 4) (a 16) m) (s 28) x e)) nm B) 0 0) : pm_E none (d + 1) pm_mm187 0 [(0, .ref 18), (1, .int (iI x)), (2, .int (iI e)), (3, .int (iI m))] [] (mh A s vl a nm B) 0 0 Q := by
  refine pm_e_sim pm_a187_0 rfl ?_
  show pm_E _ _ _ 1 [(0, .ref 18), (1, .int (iI x)), (2, .int (iI e)), (3, .int (iI m))] [.int (iI x)] _ _ _ _
  refine pm_e_sim pm_a187_1 rfl ?_
  show pm_E _ _ _ 3 [(0, .ref 18), (1, .int (iI x)), (2, .int (iI e)), (3, .int (iI m)), (4, .int (iI x))] [] _ _ _ _
  refine pm_e_heap (show mh A s vl a nm B = mh A (updS s 28 (s 28)) vl (updA a 15 (a 15)) nm B from by rw [updS_self, updA_self]) ?_
  exact M_addMore_l hA he hb hq (e - x).toNat x (s 28) (a 15) ⟨hx, by omega⟩ (by omega) h0 (by omega) k
set_option maxHeartbeats 4000000 in
set_option maxRecDepth 100000 in
theorem M_addLess_l {d : Nat} {A B : List va_E} {s : Nat → Int} {vl : Int64} {a : Nat → Int → Int} {nm : Nat → Int64} {Q : Option Value → List va_E → Nat → Nat → Prop} {x e m : Int} (hA : A.length = 18) (he : e ≤ 12000) (hb : ∀ j, x ≤ j → j < e → 0 ≤ a 4 j ∧ a 4 j ≤ 100000) : ∀ (f : Nat) (i n : Int) (F : Int → Int), 0 ≤ x ∧ x ≤ i → i + f = e → 0 ≤ n → n + f ≤ 1000000000 → Q none (mh A (updS s 28 (n + (e - i))) vl (updA a 15 (adI F (lsI (a 4)) n i e)) nm B) 0 0 → pm_E none (d + 1) pm_mm198 2 [(0, .ref 18), (1, .int (iI x)), (2, .int (iI e)), (3, .int (iI i))] [] (mh A (updS s 28 n) vl (updA a 15 F) nm B) 0 0 Q := by
  intro f
  induction f with
  | zero =>
    intro i n F h0 h1 h2 h3 k
    refine pm_e_sim pm_a198_2 rfl ?_
    show pm_E _ _ _ 3 [(0, .ref 18), (1, .int (iI x)), (2, .int (iI e)), (3, .int (iI i))] [.int (iI i)] _ _ _ _
    refine pm_e_sim pm_a198_3 rfl ?_
    show pm_E _ _ _ 4 [(0, .ref 18), (1, .int (iI x)), (2, .int (iI e)), (3, .int (iI i))] [.int (iI e), .int (iI i)] _ _ _ _
    refine pm_c_ge (t := 45) pm_a198_4 rfl ⟨by omega, by omega⟩ ⟨by omega, by omega⟩ (fun h_1 => ?_) (fun h_1 => ?_)
    · skip
      show pm_E _ _ _ 45 [(0, .ref 18), (1, .int (iI x)), (2, .int (iI e)), (3, .int (iI i))] [] _ _ _ _
      refine pm_e_ret pm_a198_45 rfl rfl rfl rfl rfl rfl rfl rfl ?_
      rw [adI_0 (by omega), show n + (e - i) = n by omega] at k
      exact k
    · skip
      exfalso; omega
  | succ f ih =>
    intro i n F h0 h1 h2 h3 k
    have b0 := hb i (by omega) (by omega)
    refine pm_e_sim pm_a198_2 rfl ?_
    show pm_E _ _ _ 3 [(0, .ref 18), (1, .int (iI x)), (2, .int (iI e)), (3, .int (iI i))] [.int (iI i)] _ _ _ _
    refine pm_e_sim pm_a198_3 rfl ?_
    show pm_E _ _ _ 4 [(0, .ref 18), (1, .int (iI x)), (2, .int (iI e)), (3, .int (iI i))] [.int (iI e), .int (iI i)] _ _ _ _
    refine pm_c_ge (t := 45) pm_a198_4 rfl ⟨by omega, by omega⟩ ⟨by omega, by omega⟩ (fun h_1 => ?_) (fun h_1 => ?_)
    · skip
      exfalso; omega
    · skip
      show pm_E _ _ _ 7 [(0, .ref 18), (1, .int (iI x)), (2, .int (iI e)), (3, .int (iI i))] [] _ _ _ _
      refine pm_e_sim pm_a198_7 rfl ?_
      show pm_E _ _ _ 8 [(0, .ref 18), (1, .int (iI x)), (2, .int (iI e)), (3, .int (iI i))] [.ref 18] _ _ _ _
      refine pm_e_sim pm_a198_8 rfl ?_
      show pm_E _ _ _ 9 [(0, .ref 18), (1, .int (iI x)), (2, .int (iI e)), (3, .int (iI i))] [.ref 18, .ref 18] _ _ _ _
      refine pm_i_get pm_a198_9 rfl (mh_get (j := 0) hA rfl) rfl ?_
      show pm_E _ _ _ 12 [(0, .ref 18), (1, .int (iI x)), (2, .int (iI e)), (3, .int (iI i))] [.ref 22, .ref 18] _ _ _ _
      refine pm_e_sim pm_a198_12 rfl ?_
      show pm_E _ _ _ 13 [(0, .ref 18), (1, .int (iI x)), (2, .int (iI e)), (3, .int (iI i))] [.int (iI i), .ref 22, .ref 18] _ _ _ _
      refine pm_i_ald pm_a198_13 (mh_get (j := 4) hA rfl) (by omega) (by omega) ⟨by omega, by omega⟩ ?_
      show pm_E _ _ _ 14 [(0, .ref 18), (1, .int (iI x)), (2, .int (iI e)), (3, .int (iI i))] [.int (iI ((a 4) (i))), .ref 18] _ _ _ _
      refine pm_e_sim pm_a198_14 rfl ?_
      refine pm_e_top (y := iI 9) (by decide +kernel) ?_
      show pm_E _ _ _ 16 [(0, .ref 18), (1, .int (iI x)), (2, .int (iI e)), (3, .int (iI i))] [.int (iI 9), .int (iI ((a 4) (i))), .ref 18] _ _ _ _
      refine pm_c_le (t := 30) pm_a198_16 rfl ⟨by omega, by omega⟩ ⟨by omega, by omega⟩ (fun h_2 => ?_) (fun h_2 => ?_)
      · skip
        show pm_E _ _ _ 30 [(0, .ref 18), (1, .int (iI x)), (2, .int (iI e)), (3, .int (iI i))] [.ref 18] _ _ _ _
        refine pm_e_sim pm_a198_30 rfl ?_
        show pm_E _ _ _ 31 [(0, .ref 18), (1, .int (iI x)), (2, .int (iI e)), (3, .int (iI i))] [.ref 18, .ref 18] _ _ _ _
        refine pm_i_get pm_a198_31 rfl (mh_get (j := 0) hA rfl) rfl ?_
        show pm_E _ _ _ 34 [(0, .ref 18), (1, .int (iI x)), (2, .int (iI e)), (3, .int (iI i))] [.ref 22, .ref 18] _ _ _ _
        refine pm_e_sim pm_a198_34 rfl ?_
        show pm_E _ _ _ 35 [(0, .ref 18), (1, .int (iI x)), (2, .int (iI e)), (3, .int (iI i))] [.int (iI i), .ref 22, .ref 18] _ _ _ _
        refine pm_i_ald pm_a198_35 (mh_get (j := 4) hA rfl) (by omega) (by omega) ⟨by omega, by omega⟩ ?_
        show pm_E _ _ _ 36 [(0, .ref 18), (1, .int (iI x)), (2, .int (iI e)), (3, .int (iI i))] [.int (iI ((a 4) (i))), .ref 18] _ _ _ _
        refine pm_i_callv (k := 18) (T2 := pm_mm185) pm_a198_36 rfl rfl rfl (mh_get (j := 0) hA rfl) ⟨Nat.le_of_ble_eq_true rfl, Nat.le_of_ble_eq_true rfl, rfl, by decide +kernel⟩ ?_
        show pm_E none _ _ 0 [(0, .ref 18), (1, .int (iI ((a 4) (i))))] [] _ _ _ _
        refine M_add (s := updS s 28 n) (a := updA a 15 F) hA (show 0 ≤ n by omega) (show n ≤ 1000000000 by omega) (fun h_3 => ?_) (fun h_3 => ?_)
        · skip
          replace h_3 : n < 12000 := h_3
          refine pm_e_heap (show _ = mh A (updS s 28 (n + 1)) vl (updA a 15 (updI F n ((a 4) (i)))) nm B from by rw [updS_s, updA_s]; rfl) ?_
          show pm_E _ _ _ 39 [(0, .ref 18), (1, .int (iI x)), (2, .int (iI e)), (3, .int (iI i))] [] _ _ _ _
          refine pm_e_inc (y := iI (i + 1)) pm_a198_39 rfl (iI_add _ _) (by decide +kernel) rfl ?_
          show pm_E _ _ _ 42 [(0, .ref 18), (1, .int (iI x)), (2, .int (iI e)), (3, .int (iI (i + 1)))] [] _ _ _ _
          refine pm_e_goto pm_a198_42 rfl ?_
          show pm_E _ _ _ 2 [(0, .ref 18), (1, .int (iI x)), (2, .int (iI e)), (3, .int (iI (i + 1)))] [] _ _ _ _
          refine ih (i + 1) (n + 1) _ (by omega) (by omega) (by omega) (by omega) ?_
          rw [show ((a 4) (i)) = lsI (a 4) i from lsI_n (by omega), adI_y (by omega) (by omega), show n + 1 + (e - (i + 1)) = n + (e - i) by omega]
          exact k
        · skip
          replace h_3 : 12000 ≤ n := h_3
          refine pm_e_heap (show _ = mh A (updS s 28 (n + 1)) vl (updA a 15 F) nm B from by rw [updS_s]; rfl) ?_
          show pm_E _ _ _ 39 [(0, .ref 18), (1, .int (iI x)), (2, .int (iI e)), (3, .int (iI i))] [] _ _ _ _
          refine pm_e_inc (y := iI (i + 1)) pm_a198_39 rfl (iI_add _ _) (by decide +kernel) rfl ?_
          show pm_E _ _ _ 42 [(0, .ref 18), (1, .int (iI x)), (2, .int (iI e)), (3, .int (iI (i + 1)))] [] _ _ _ _
          refine pm_e_goto pm_a198_42 rfl ?_
          show pm_E _ _ _ 2 [(0, .ref 18), (1, .int (iI x)), (2, .int (iI e)), (3, .int (iI (i + 1)))] [] _ _ _ _
          refine ih (i + 1) (n + 1) _ (by omega) (by omega) (by omega) (by omega) ?_
          rw [adI_n (by omega) (by omega), show n + 1 + (e - (i + 1)) = n + (e - i) by omega]
          exact k
      · skip
        show pm_E _ _ _ 19 [(0, .ref 18), (1, .int (iI x)), (2, .int (iI e)), (3, .int (iI i))] [.ref 18] _ _ _ _
        refine pm_e_sim pm_a198_19 rfl ?_
        show pm_E _ _ _ 20 [(0, .ref 18), (1, .int (iI x)), (2, .int (iI e)), (3, .int (iI i))] [.ref 18, .ref 18] _ _ _ _
        refine pm_i_get pm_a198_20 rfl (mh_get (j := 0) hA rfl) rfl ?_
        show pm_E _ _ _ 23 [(0, .ref 18), (1, .int (iI x)), (2, .int (iI e)), (3, .int (iI i))] [.ref 22, .ref 18] _ _ _ _
        refine pm_e_sim pm_a198_23 rfl ?_
        show pm_E _ _ _ 24 [(0, .ref 18), (1, .int (iI x)), (2, .int (iI e)), (3, .int (iI i))] [.int (iI i), .ref 22, .ref 18] _ _ _ _
        refine pm_i_ald pm_a198_24 (mh_get (j := 4) hA rfl) (by omega) (by omega) ⟨by omega, by omega⟩ ?_
        show pm_E _ _ _ 25 [(0, .ref 18), (1, .int (iI x)), (2, .int (iI e)), (3, .int (iI i))] [.int (iI ((a 4) (i))), .ref 18] _ _ _ _
        refine pm_e_sim pm_a198_25 rfl ?_
        refine pm_e_top (y := iI 1) (by decide +kernel) ?_
        show pm_E _ _ _ 26 [(0, .ref 18), (1, .int (iI x)), (2, .int (iI e)), (3, .int (iI i))] [.int (iI 1), .int (iI ((a 4) (i))), .ref 18] _ _ _ _
        refine pm_e_sim pm_a198_26 rfl ?_
        refine pm_e_top (y := iI ((a 4) (i) - 1)) (iI_sub _ _) ?_
        show pm_E _ _ _ 27 [(0, .ref 18), (1, .int (iI x)), (2, .int (iI e)), (3, .int (iI i))] [.int (iI ((a 4) (i) - 1)), .ref 18] _ _ _ _
        refine pm_e_goto pm_a198_27 rfl ?_
        show pm_E _ _ _ 36 [(0, .ref 18), (1, .int (iI x)), (2, .int (iI e)), (3, .int (iI i))] [.int (iI ((a 4) (i) - 1)), .ref 18] _ _ _ _
        refine pm_i_callv (k := 18) (T2 := pm_mm185) pm_a198_36 rfl rfl rfl (mh_get (j := 0) hA rfl) ⟨Nat.le_of_ble_eq_true rfl, Nat.le_of_ble_eq_true rfl, rfl, by decide +kernel⟩ ?_
        show pm_E none _ _ 0 [(0, .ref 18), (1, .int (iI ((a 4) (i) - 1)))] [] _ _ _ _
        refine M_add (s := updS s 28 n) (a := updA a 15 F) hA (show 0 ≤ n by omega) (show n ≤ 1000000000 by omega) (fun h_4 => ?_) (fun h_4 => ?_)
        · skip
          replace h_4 : n < 12000 := h_4
          refine pm_e_heap (show _ = mh A (updS s 28 (n + 1)) vl (updA a 15 (updI F n ((a 4) (i) - 1))) nm B from by rw [updS_s, updA_s]; rfl) ?_
          show pm_E _ _ _ 39 [(0, .ref 18), (1, .int (iI x)), (2, .int (iI e)), (3, .int (iI i))] [] _ _ _ _
          refine pm_e_inc (y := iI (i + 1)) pm_a198_39 rfl (iI_add _ _) (by decide +kernel) rfl ?_
          show pm_E _ _ _ 42 [(0, .ref 18), (1, .int (iI x)), (2, .int (iI e)), (3, .int (iI (i + 1)))] [] _ _ _ _
          refine pm_e_goto pm_a198_42 rfl ?_
          show pm_E _ _ _ 2 [(0, .ref 18), (1, .int (iI x)), (2, .int (iI e)), (3, .int (iI (i + 1)))] [] _ _ _ _
          refine ih (i + 1) (n + 1) _ (by omega) (by omega) (by omega) (by omega) ?_
          rw [show ((a 4) (i) - 1) = lsI (a 4) i from lsI_y (by omega), adI_y (by omega) (by omega), show n + 1 + (e - (i + 1)) = n + (e - i) by omega]
          exact k
        · skip
          replace h_4 : 12000 ≤ n := h_4
          refine pm_e_heap (show _ = mh A (updS s 28 (n + 1)) vl (updA a 15 F) nm B from by rw [updS_s]; rfl) ?_
          show pm_E _ _ _ 39 [(0, .ref 18), (1, .int (iI x)), (2, .int (iI e)), (3, .int (iI i))] [] _ _ _ _
          refine pm_e_inc (y := iI (i + 1)) pm_a198_39 rfl (iI_add _ _) (by decide +kernel) rfl ?_
          show pm_E _ _ _ 42 [(0, .ref 18), (1, .int (iI x)), (2, .int (iI e)), (3, .int (iI (i + 1)))] [] _ _ _ _
          refine pm_e_goto pm_a198_42 rfl ?_
          show pm_E _ _ _ 2 [(0, .ref 18), (1, .int (iI x)), (2, .int (iI e)), (3, .int (iI (i + 1)))] [] _ _ _ _
          refine ih (i + 1) (n + 1) _ (by omega) (by omega) (by omega) (by omega) ?_
          rw [adI_n (by omega) (by omega), show n + 1 + (e - (i + 1)) = n + (e - i) by omega]
          exact k
set_option maxHeartbeats 4000000 in
set_option maxRecDepth 100000 in
theorem M_addLess {d : Nat} {A B : List va_E} {s : Nat → Int} {vl : Int64} {a : Nat → Int → Int} {nm : Nat → Int64} {Q : Option Value → List va_E → Nat → Nat → Prop} {x e m : Int} (hA : A.length = 18) (hx : 0 ≤ x) (hxe : x ≤ e) (he : e ≤ 12000) (hb : ∀ j, x ≤ j → j < e → 0 ≤ a 4 j ∧ a 4 j ≤ 100000) (h0 : 0 ≤ s 28) (h1 : s 28 ≤ 900000000) (k : Q none (mh A (updS s 28 (s 28 + (e - x))) vl (updA a 15 (adI (a 15) (lsI (a 4)) (s 28) x e)) nm B) 0 0) : pm_E none (d + 1) pm_mm198 0 [(0, .ref 18), (1, .int (iI x)), (2, .int (iI e))] [] (mh A s vl a nm B) 0 0 Q := by
  refine pm_e_sim pm_a198_0 rfl ?_
  show pm_E _ _ _ 1 [(0, .ref 18), (1, .int (iI x)), (2, .int (iI e))] [.int (iI x)] _ _ _ _
  refine pm_e_sim pm_a198_1 rfl ?_
  show pm_E _ _ _ 2 [(0, .ref 18), (1, .int (iI x)), (2, .int (iI e)), (3, .int (iI x))] [] _ _ _ _
  refine pm_e_heap (show mh A s vl a nm B = mh A (updS s 28 (s 28)) vl (updA a 15 (a 15)) nm B from by rw [updS_self, updA_self]) ?_
  exact M_addLess_l (m := 0) hA he hb (e - x).toNat x (s 28) (a 15) ⟨hx, by omega⟩ (by omega) h0 (by omega) k
