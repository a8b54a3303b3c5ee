/-! THE REFERENCE: next, the loop over blanks -/
/-- behind the blanks -/
def skp (g : Int → Int) (n : Int) : Nat → Int → Int
  | 0, i => i
  | f + 1, i => if i < n ∧ g i = 32 then skp g n f (i + 1) else i
theorem skp_y {g : Int → Int} {n i : Int} {f : Nat} (h : i < n) (h1 : g i = 32) : skp g n (f + 1) i = skp g n f (i + 1) := by
  rw [skp, if_pos ⟨h, h1⟩]
theorem skp_n {g : Int → Int} {n i : Int} {f : Nat} (h : n ≤ i ∨ g i ≠ 32) : skp g n f i = i := by
  cases f with
  | zero => rfl
  | succ f => rw [skp, if_neg (fun q => h.elim (fun z => by omega) (fun z => z q.2))]
theorem skp_le {g : Int → Int} {n : Int} : ∀ (f : Nat) (i : Int), i ≤ n → i ≤ skp g n f i ∧ skp g n f i ≤ n
  | 0, i, h => ⟨Int.le_refl _, h⟩
  | f + 1, i, h => by
    unfold skp
    split
    · rename_i q
      have := skp_le (g := g) (n := n) f (i + 1) (by omega)
      omega
    · exact ⟨Int.le_refl _, h⟩
set_option maxHeartbeats 4000000 in
set_option maxRecDepth 100000 in
theorem M_next_1 {d : Nat} {A B : List va_E} {s : Nat → Int} {vl : Int64} {a : Nat → Int → Int} {nm : Nat → Int64} {Q : Option Value → List va_E → Nat → Nat → Prop} (hA : A.length = 18) (hr : ∀ j, in32 (a 3 j)) (h4 : 0 ≤ s 4) (h5 : s 4 ≤ 600) : ∀ (f : Nat) (i : Int), 0 ≤ i → i ≤ s 4 → s 4 ≤ i + f → pm_E none (d + 1) pm_mm151 22 [(0, .ref 18)] [] (mh A (updS s 9 (skp (a 3) (s 4) f i)) vl a nm B) 0 0 Q → pm_E none (d + 1) pm_mm151 0 [(0, .ref 18)] [] (mh A (updS s 9 i) vl a nm B) 0 0 Q := by
  intro f
  induction f with
  | zero =>
    intro i hi0 hi1 hi2 k
    have hr1 := hr i
    refine pm_e_sim pm_a151_0 rfl ?_
    show pm_E _ _ _ 1 [(0, .ref 18)] [.ref 18] _ _ _ _
    refine pm_i_callv (k := 18) (T2 := pm_mm152) pm_a151_1 rfl rfl rfl (mh_get (j := 0) hA rfl) ⟨Nat.le_of_ble_eq_true rfl, Nat.le_of_ble_eq_true rfl, rfl, by decide +kernel⟩ ?_
    show pm_E none _ _ 0 [(0, .ref 18)] [] _ _ _ _
    refine M_look hA (show 0 ≤ i by omega) (show i ≤ 100000 by omega) (show 0 ≤ s 4 by omega) (show s 4 ≤ 600 by omega) (fun h_1 => ?_) (fun h_1 => ?_)
    · skip
      replace h_1 : i < s 4 := h_1
      show pm_E _ _ _ 4 [(0, .ref 18)] [.int (iI ((a 3) (i)))] _ _ _ _
      refine pm_e_sim pm_a151_4 rfl ?_
      refine pm_e_top (y := iI 32) (by decide +kernel) ?_
      show pm_E _ _ _ 6 [(0, .ref 18)] [.int (iI 32), .int (iI ((a 3) (i)))] _ _ _ _
      refine pm_c_ne (t := 22) pm_a151_6 rfl ⟨by omega, by omega⟩ ⟨by omega, by omega⟩ (fun h_2 => ?_) (fun h_2 => ?_)
      · skip
        show pm_E _ _ _ 22 [(0, .ref 18)] [] _ _ _ _
        rw [skp_n (by omega)] at k
        exact k
      · skip
        show pm_E _ _ _ 9 [(0, .ref 18)] [] _ _ _ _
        refine pm_e_sim pm_a151_9 rfl ?_
        show pm_E _ _ _ 10 [(0, .ref 18)] [.ref 18] _ _ _ _
        refine pm_e_sim pm_a151_10 rfl ?_
        show pm_E _ _ _ 11 [(0, .ref 18)] [.ref 18, .ref 18] _ _ _ _
        refine pm_i_get pm_a151_11 rfl (mh_get (j := 0) hA rfl) rfl ?_
        show pm_E _ _ _ 14 [(0, .ref 18)] [.int (iI i), .ref 18] _ _ _ _
        refine pm_e_sim pm_a151_14 rfl ?_
        refine pm_e_top (y := iI 1) (by decide +kernel) ?_
        show pm_E _ _ _ 15 [(0, .ref 18)] [.int (iI 1), .int (iI i), .ref 18] _ _ _ _
        refine pm_e_sim pm_a151_15 rfl ?_
        refine pm_e_top (y := iI (i + 1)) (iI_add _ _) ?_
        show pm_E _ _ _ 16 [(0, .ref 18)] [.int (iI (i + 1)), .ref 18] _ _ _ _
        refine pm_i_put pm_a151_16 rfl (mh_get (j := 0) hA rfl) rfl (Nat.le_of_ble_eq_true rfl) (Or.inl rfl) ((mw_9 hA _).trans (congrArg (fun z => mh A z _ _ _ B) (updS_s))) ?_
        show pm_E _ _ _ 19 [(0, .ref 18)] [] _ _ _ _
        refine pm_e_goto pm_a151_19 rfl ?_
        show pm_E _ _ _ 0 [(0, .ref 18)] [] _ _ _ _
        exfalso; omega
    · skip
      replace h_1 : s 4 ≤ i := h_1
      show pm_E _ _ _ 4 [(0, .ref 18)] [.int (iI (-1))] _ _ _ _
      refine pm_e_sim pm_a151_4 rfl ?_
      refine pm_e_top (y := iI 32) (by decide +kernel) ?_
      show pm_E _ _ _ 6 [(0, .ref 18)] [.int (iI 32), .int (iI (-1))] _ _ _ _
      refine pm_e_ict pm_a151_6 rfl (by decide +kernel) ?_
      show pm_E _ _ _ 22 [(0, .ref 18)] [] _ _ _ _
      rw [skp_n (by omega)] at k
      exact k
  | succ f ih =>
    intro i hi0 hi1 hi2 k
    have hr1 := hr i
    refine pm_e_sim pm_a151_0 rfl ?_
    show pm_E _ _ _ 1 [(0, .ref 18)] [.ref 18] _ _ _ _
    refine pm_i_callv (k := 18) (T2 := pm_mm152) pm_a151_1 rfl rfl rfl (mh_get (j := 0) hA rfl) ⟨Nat.le_of_ble_eq_true rfl, Nat.le_of_ble_eq_true rfl, rfl, by decide +kernel⟩ ?_
    show pm_E none _ _ 0 [(0, .ref 18)] [] _ _ _ _
    refine M_look hA (show 0 ≤ i by omega) (show i ≤ 100000 by omega) (show 0 ≤ s 4 by omega) (show s 4 ≤ 600 by omega) (fun h_1 => ?_) (fun h_1 => ?_)
    · skip
      replace h_1 : i < s 4 := h_1
      show pm_E _ _ _ 4 [(0, .ref 18)] [.int (iI ((a 3) (i)))] _ _ _ _
      refine pm_e_sim pm_a151_4 rfl ?_
      refine pm_e_top (y := iI 32) (by decide +kernel) ?_
      show pm_E _ _ _ 6 [(0, .ref 18)] [.int (iI 32), .int (iI ((a 3) (i)))] _ _ _ _
      refine pm_c_ne (t := 22) pm_a151_6 rfl ⟨by omega, by omega⟩ ⟨by omega, by omega⟩ (fun h_2 => ?_) (fun h_2 => ?_)
      · skip
        show pm_E _ _ _ 22 [(0, .ref 18)] [] _ _ _ _
        rw [skp_n (by omega)] at k
        exact k
      · skip
        show pm_E _ _ _ 9 [(0, .ref 18)] [] _ _ _ _
        refine pm_e_sim pm_a151_9 rfl ?_
        show pm_E _ _ _ 10 [(0, .ref 18)] [.ref 18] _ _ _ _
        refine pm_e_sim pm_a151_10 rfl ?_
        show pm_E _ _ _ 11 [(0, .ref 18)] [.ref 18, .ref 18] _ _ _ _
        refine pm_i_get pm_a151_11 rfl (mh_get (j := 0) hA rfl) rfl ?_
        show pm_E _ _ _ 14 [(0, .ref 18)] [.int (iI i), .ref 18] _ _ _ _
        refine pm_e_sim pm_a151_14 rfl ?_
        refine pm_e_top (y := iI 1) (by decide +kernel) ?_
        show pm_E _ _ _ 15 [(0, .ref 18)] [.int (iI 1), .int (iI i), .ref 18] _ _ _ _
        refine pm_e_sim pm_a151_15 rfl ?_
        refine pm_e_top (y := iI (i + 1)) (iI_add _ _) ?_
        show pm_E _ _ _ 16 [(0, .ref 18)] [.int (iI (i + 1)), .ref 18] _ _ _ _
        refine pm_i_put pm_a151_16 rfl (mh_get (j := 0) hA rfl) rfl (Nat.le_of_ble_eq_true rfl) (Or.inl rfl) ((mw_9 hA _).trans (congrArg (fun z => mh A z _ _ _ B) (updS_s))) ?_
        show pm_E _ _ _ 19 [(0, .ref 18)] [] _ _ _ _
        refine pm_e_goto pm_a151_19 rfl ?_
        show pm_E _ _ _ 0 [(0, .ref 18)] [] _ _ _ _
        rw [skp_y (by omega) (by omega)] at k
        exact ih (i + 1) (by omega) (by omega) (by omega) k
    · skip
      replace h_1 : s 4 ≤ i := h_1
      show pm_E _ _ _ 4 [(0, .ref 18)] [.int (iI (-1))] _ _ _ _
      refine pm_e_sim pm_a151_4 rfl ?_
      refine pm_e_top (y := iI 32) (by decide +kernel) ?_
      show pm_E _ _ _ 6 [(0, .ref 18)] [.int (iI 32), .int (iI (-1))] _ _ _ _
      refine pm_e_ict pm_a151_6 rfl (by decide +kernel) ?_
      show pm_E _ _ _ 22 [(0, .ref 18)] [] _ _ _ _
      rw [skp_n (by omega)] at k
      exact k
