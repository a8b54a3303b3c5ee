/-! THE REFERENCE: apply, same, number, read -/
/-- g with l laid from n on -/
theorem rg_ext {g : Int → Int} {l : List Int} {n : Int} (hg : rg g l.length 0 = l) (hn : n = l.length) (v : Int) : rg (updI g n v) (l ++ [v]).length 0 = l ++ [v] := by
  rw [List.length_append, List.length_singleton, rg_app, rg_eq (g := g) (fun j z y => updI_n _ _ (by omega)), hg]
  show l ++ [updI g n v (0 + (l.length : Int))] = _
  rw [show (0 : Int) + (l.length : Int) = n by omega, updI_s]
theorem updI_in {g : Int → Int} {i v : Int} (h : ∀ j, in32 (g j)) (hv : in32 v) : ∀ j, in32 (updI g i v j) := by
  intro j
  unfold updI
  split
  · exact hv
  · exact h j
theorem rg_snoc {g : Int → Int} {n : Nat} {p : Int} : rg g (n + 1) p = rg g n p ++ [g (p + n)] := by rw [rg_app]; rfl
set_option maxHeartbeats 4000000 in
set_option maxRecDepth 100000 in
theorem M_apply_1 {d : Nat} {A B : List va_E} {vl : Int64} {nm : Nat → Int64} {Q : Option Value → List va_E → Nat → Nat → Prop} {s0 : Nat → Int} {a0 : Nat → Int → Int} {x u : Int} (hA : A.length = 18) (hx0 : 0 ≤ x) (hx1 : x < 32) (hz0 : 0 ≤ a0 1 x) (hz1 : a0 1 x ≤ 500) (hi2 : ∀ j, in32 (a0 2 j)) : ∀ (f : Nat) (i : Int) (l : List Int) (s : Nat → Int) (a : Nat → Int → Int), 0 ≤ i → i ≤ a0 1 x → (∀ j, j ≠ 6 → s j = s0 j) → (∀ j, j ≠ 4 → a j = a0 j) → s 6 = l.length → l.length + (a0 1 x - i) ≤ 11000 → rg (a 4) l.length 0 = l → (∀ j, in32 (a 4 j)) → (∀ (s' : Nat → Int) (a' : Nat → Int → Int) (l' : List Int), (∀ j, j ≠ 6 → s' j = s0 j) → (∀ j, j ≠ 4 → a' j = a0 j) → (s' 6 = l'.length ∧ rg (a' 4) l'.length 0 = l' ∧ ∀ j, in32 (a' 4 j)) → l' = l ++ rg (a0 2) (a0 1 x - i).toNat (500 * x + i) → ∀ i', pm_E none (d + 1) pm_mm174 95 [(0, .ref 18), (1, .int (iI x)), (2, .int (iI u)), (3, .int (iI (i')))] [] (mh A s' vl a' nm B) 0 0 Q) → a0 1 x - i < (f : Int) → pm_E none (d + 1) pm_mm174 63 [(0, .ref 18), (1, .int (iI x)), (2, .int (iI u)), (3, .int (iI i))] [] (mh A s vl a nm B) 0 0 Q := by
  intro f
  induction f with
  | zero =>
    intro i l s a h0 h1 fS fA h6 hl hg h4 k hf
    exfalso; omega
  | succ f ih =>
    intro i l s a h0 h1 fS fA h6 hl hg h4 k hf
    have e1 := fA 1 (by omega)
    have e2 := fA 2 (by omega)
    have e1x : a 1 x = a0 1 x := by rw [e1]
    refine pm_e_sim pm_a174_63 rfl ?_
    show pm_E _ _ _ 64 [(0, .ref 18), (1, .int (iI x)), (2, .int (iI u)), (3, .int (iI i))] [.int (iI i)] _ _ _ _
    refine pm_e_sim pm_a174_64 rfl ?_
    show pm_E _ _ _ 65 [(0, .ref 18), (1, .int (iI x)), (2, .int (iI u)), (3, .int (iI i))] [.ref 18, .int (iI i)] _ _ _ _
    refine pm_i_get pm_a174_65 rfl (mh_get (j := 0) hA rfl) rfl ?_
    show pm_E _ _ _ 68 [(0, .ref 18), (1, .int (iI x)), (2, .int (iI u)), (3, .int (iI i))] [.ref 19, .int (iI i)] _ _ _ _
    refine pm_e_sim pm_a174_68 rfl ?_
    show pm_E _ _ _ 69 [(0, .ref 18), (1, .int (iI x)), (2, .int (iI u)), (3, .int (iI i))] [.int (iI x), .ref 19, .int (iI i)] _ _ _ _
    refine pm_i_ald pm_a174_69 (mh_get (j := 1) hA rfl) (by omega) (by omega) ⟨by omega, by omega⟩ ?_
    show pm_E _ _ _ 70 [(0, .ref 18), (1, .int (iI x)), (2, .int (iI u)), (3, .int (iI i))] [.int (iI ((a 1) (x))), .int (iI i)] _ _ _ _
    refine pm_c_ge (t := 95) pm_a174_70 rfl ⟨by omega, by omega⟩ ⟨by omega, by omega⟩ (fun h_1 => ?_) (fun h_1 => ?_)
    · skip
      show pm_E _ _ _ 95 [(0, .ref 18), (1, .int (iI x)), (2, .int (iI u)), (3, .int (iI i))] [] _ _ _ _
      have e9 := k s a l fS fA ⟨h6, hg, h4⟩ (by rw [show (a0 1 x - i).toNat = 0 by omega]; exact (List.append_nil l).symm)
      exact e9 i
    · skip
      show pm_E _ _ _ 73 [(0, .ref 18), (1, .int (iI x)), (2, .int (iI u)), (3, .int (iI i))] [] _ _ _ _
      refine pm_e_sim pm_a174_73 rfl ?_
      show pm_E _ _ _ 74 [(0, .ref 18), (1, .int (iI x)), (2, .int (iI u)), (3, .int (iI i))] [.ref 18] _ _ _ _
      refine pm_e_sim pm_a174_74 rfl ?_
      show pm_E _ _ _ 75 [(0, .ref 18), (1, .int (iI x)), (2, .int (iI u)), (3, .int (iI i))] [.ref 18, .ref 18] _ _ _ _
      refine pm_i_get pm_a174_75 rfl (mh_get (j := 0) hA rfl) rfl ?_
      show pm_E _ _ _ 78 [(0, .ref 18), (1, .int (iI x)), (2, .int (iI u)), (3, .int (iI i))] [.ref 20, .ref 18] _ _ _ _
      refine pm_e_sim pm_a174_78 rfl ?_
      refine pm_e_top (y := iI 500) (by decide +kernel) ?_
      show pm_E _ _ _ 81 [(0, .ref 18), (1, .int (iI x)), (2, .int (iI u)), (3, .int (iI i))] [.int (iI 500), .ref 20, .ref 18] _ _ _ _
      refine pm_e_sim pm_a174_81 rfl ?_
      show pm_E _ _ _ 82 [(0, .ref 18), (1, .int (iI x)), (2, .int (iI u)), (3, .int (iI i))] [.int (iI x), .int (iI 500), .ref 20, .ref 18] _ _ _ _
      refine pm_e_sim pm_a174_82 rfl ?_
      refine pm_e_top (y := iI (500 * x)) (iI_mul _ _) ?_
      show pm_E _ _ _ 83 [(0, .ref 18), (1, .int (iI x)), (2, .int (iI u)), (3, .int (iI i))] [.int (iI (500 * x)), .ref 20, .ref 18] _ _ _ _
      refine pm_e_sim pm_a174_83 rfl ?_
      show pm_E _ _ _ 84 [(0, .ref 18), (1, .int (iI x)), (2, .int (iI u)), (3, .int (iI i))] [.int (iI i), .int (iI (500 * x)), .ref 20, .ref 18] _ _ _ _
      refine pm_e_sim pm_a174_84 rfl ?_
      refine pm_e_top (y := iI (500 * x + i)) (iI_add _ _) ?_
      show pm_E _ _ _ 85 [(0, .ref 18), (1, .int (iI x)), (2, .int (iI u)), (3, .int (iI i))] [.int (iI (500 * x + i)), .ref 20, .ref 18] _ _ _ _
      refine pm_i_ald pm_a174_85 (mh_get (j := 2) hA rfl) (by omega) (by omega) ⟨by omega, by omega⟩ ?_
      show pm_E _ _ _ 86 [(0, .ref 18), (1, .int (iI x)), (2, .int (iI u)), (3, .int (iI i))] [.int (iI ((a 2) (500 * x + i))), .ref 18] _ _ _ _
      refine pm_i_callv (k := 18) (T2 := pm_mm157) pm_a174_86 rfl rfl rfl (mh_get (j := 0) hA rfl) ⟨Nat.le_of_ble_eq_true rfl, Nat.le_of_ble_eq_true rfl, rfl, by decide +kernel⟩ ?_
      show pm_E none _ _ 0 [(0, .ref 18), (1, .int (iI ((a 2) (500 * x + i))))] [] _ _ _ _
      refine M_lay hA (by omega) (by omega) ?_
      show pm_E _ _ _ 89 [(0, .ref 18), (1, .int (iI x)), (2, .int (iI u)), (3, .int (iI i))] [] _ _ _ _
      refine pm_e_inc (y := iI (i + 1)) pm_a174_89 rfl (iI_add _ _) (by decide +kernel) rfl ?_
      show pm_E _ _ _ 92 [(0, .ref 18), (1, .int (iI x)), (2, .int (iI u)), (3, .int (iI (i + 1)))] [] _ _ _ _
      refine pm_e_goto pm_a174_92 rfl ?_
      show pm_E _ _ _ 63 [(0, .ref 18), (1, .int (iI x)), (2, .int (iI u)), (3, .int (iI (i + 1)))] [] _ _ _ _
      have e1 := fA 1 (by omega)
      have e2 := fA 2 (by omega)
      refine ih (i + 1) (l ++ [a 2 (500 * x + i)]) _ _ (by omega) (by omega) (fun j hj => by simp [updS, hj, fS j hj]) (fun j hj => by simp [updA, hj, fA j hj]) ?_ ?_ ?_ ?_ ?_ (by omega)
      · show s 6 + 1 = _; rw [List.length_append, List.length_singleton]; omega
      · rw [List.length_append, List.length_singleton]; omega
      · exact rg_ext hg h6 _
      · exact updI_in h4 (by rw [e2]; exact hi2 _)
      · intro s' a' l' gS gA g6 gg
        refine k s' a' l' gS gA g6 ?_
        rw [gg, List.append_assoc, show (a0 1 x - i).toNat = (a0 1 x - (i + 1)).toNat + 1 by omega]
        show _ = l ++ (a0 2 (500 * x + i) :: _)
        rw [e2, show 500 * x + i + 1 = 500 * x + (i + 1) by omega]
        rfl
set_option maxHeartbeats 4000000 in
set_option maxRecDepth 100000 in
theorem M_apply_2 {d : Nat} {A B : List va_E} {vl : Int64} {nm : Nat → Int64} {Q : Option Value → List va_E → Nat → Nat → Prop} {s0 : Nat → Int} {a0 : Nat → Int → Int} {x u : Int} (hA : A.length = 18) (hx0 : 0 ≤ u) (hx1 : u < 32) (hz0 : 0 ≤ a0 1 u) (hz1 : a0 1 u ≤ 500) (hi2 : ∀ j, in32 (a0 2 j)) : ∀ (f : Nat) (i : Int) (l : List Int) (s : Nat → Int) (a : Nat → Int → Int), 0 ≤ i → i ≤ a0 1 u → (∀ j, j ≠ 6 → s j = s0 j) → (∀ j, j ≠ 4 → a j = a0 j) → s 6 = l.length → l.length + (a0 1 u - i) ≤ 11000 → rg (a 4) l.length 0 = l → (∀ j, in32 (a 4 j)) → (∀ (s' : Nat → Int) (a' : Nat → Int → Int) (l' : List Int), (∀ j, j ≠ 6 → s' j = s0 j) → (∀ j, j ≠ 4 → a' j = a0 j) → (s' 6 = l'.length ∧ rg (a' 4) l'.length 0 = l' ∧ ∀ j, in32 (a' 4 j)) → l' = l ++ rg (a0 2) (a0 1 u - i).toNat (500 * u + i) → ∀ i', pm_E none (d + 1) pm_mm174 129 [(0, .ref 18), (1, .int (iI x)), (2, .int (iI u)), (3, .int (iI (i')))] [] (mh A s' vl a' nm B) 0 0 Q) → a0 1 u - i < (f : Int) → pm_E none (d + 1) pm_mm174 97 [(0, .ref 18), (1, .int (iI x)), (2, .int (iI u)), (3, .int (iI i))] [] (mh A s vl a nm B) 0 0 Q := by
  intro f
  induction f with
  | zero =>
    intro i l s a h0 h1 fS fA h6 hl hg h4 k hf
    exfalso; omega
  | succ f ih =>
    intro i l s a h0 h1 fS fA h6 hl hg h4 k hf
    have e1 := fA 1 (by omega)
    have e2 := fA 2 (by omega)
    have e1x : a 1 u = a0 1 u := by rw [e1]
    refine pm_e_sim pm_a174_97 rfl ?_
    show pm_E _ _ _ 98 [(0, .ref 18), (1, .int (iI x)), (2, .int (iI u)), (3, .int (iI i))] [.int (iI i)] _ _ _ _
    refine pm_e_sim pm_a174_98 rfl ?_
    show pm_E _ _ _ 99 [(0, .ref 18), (1, .int (iI x)), (2, .int (iI u)), (3, .int (iI i))] [.ref 18, .int (iI i)] _ _ _ _
    refine pm_i_get pm_a174_99 rfl (mh_get (j := 0) hA rfl) rfl ?_
    show pm_E _ _ _ 102 [(0, .ref 18), (1, .int (iI x)), (2, .int (iI u)), (3, .int (iI i))] [.ref 19, .int (iI i)] _ _ _ _
    refine pm_e_sim pm_a174_102 rfl ?_
    show pm_E _ _ _ 103 [(0, .ref 18), (1, .int (iI x)), (2, .int (iI u)), (3, .int (iI i))] [.int (iI u), .ref 19, .int (iI i)] _ _ _ _
    refine pm_i_ald pm_a174_103 (mh_get (j := 1) hA rfl) (by omega) (by omega) ⟨by omega, by omega⟩ ?_
    show pm_E _ _ _ 104 [(0, .ref 18), (1, .int (iI x)), (2, .int (iI u)), (3, .int (iI i))] [.int (iI ((a 1) (u))), .int (iI i)] _ _ _ _
    refine pm_c_ge (t := 129) pm_a174_104 rfl ⟨by omega, by omega⟩ ⟨by omega, by omega⟩ (fun h_1 => ?_) (fun h_1 => ?_)
    · skip
      show pm_E _ _ _ 129 [(0, .ref 18), (1, .int (iI x)), (2, .int (iI u)), (3, .int (iI i))] [] _ _ _ _
      have e9 := k s a l fS fA ⟨h6, hg, h4⟩ (by rw [show (a0 1 u - i).toNat = 0 by omega]; exact (List.append_nil l).symm)
      exact e9 i
    · skip
      show pm_E _ _ _ 107 [(0, .ref 18), (1, .int (iI x)), (2, .int (iI u)), (3, .int (iI i))] [] _ _ _ _
      refine pm_e_sim pm_a174_107 rfl ?_
      show pm_E _ _ _ 108 [(0, .ref 18), (1, .int (iI x)), (2, .int (iI u)), (3, .int (iI i))] [.ref 18] _ _ _ _
      refine pm_e_sim pm_a174_108 rfl ?_
      show pm_E _ _ _ 109 [(0, .ref 18), (1, .int (iI x)), (2, .int (iI u)), (3, .int (iI i))] [.ref 18, .ref 18] _ _ _ _
      refine pm_i_get pm_a174_109 rfl (mh_get (j := 0) hA rfl) rfl ?_
      show pm_E _ _ _ 112 [(0, .ref 18), (1, .int (iI x)), (2, .int (iI u)), (3, .int (iI i))] [.ref 20, .ref 18] _ _ _ _
      refine pm_e_sim pm_a174_112 rfl ?_
      refine pm_e_top (y := iI 500) (by decide +kernel) ?_
      show pm_E _ _ _ 115 [(0, .ref 18), (1, .int (iI x)), (2, .int (iI u)), (3, .int (iI i))] [.int (iI 500), .ref 20, .ref 18] _ _ _ _
      refine pm_e_sim pm_a174_115 rfl ?_
      show pm_E _ _ _ 116 [(0, .ref 18), (1, .int (iI x)), (2, .int (iI u)), (3, .int (iI i))] [.int (iI u), .int (iI 500), .ref 20, .ref 18] _ _ _ _
      refine pm_e_sim pm_a174_116 rfl ?_
      refine pm_e_top (y := iI (500 * u)) (iI_mul _ _) ?_
      show pm_E _ _ _ 117 [(0, .ref 18), (1, .int (iI x)), (2, .int (iI u)), (3, .int (iI i))] [.int (iI (500 * u)), .ref 20, .ref 18] _ _ _ _
      refine pm_e_sim pm_a174_117 rfl ?_
      show pm_E _ _ _ 118 [(0, .ref 18), (1, .int (iI x)), (2, .int (iI u)), (3, .int (iI i))] [.int (iI i), .int (iI (500 * u)), .ref 20, .ref 18] _ _ _ _
      refine pm_e_sim pm_a174_118 rfl ?_
      refine pm_e_top (y := iI (500 * u + i)) (iI_add _ _) ?_
      show pm_E _ _ _ 119 [(0, .ref 18), (1, .int (iI x)), (2, .int (iI u)), (3, .int (iI i))] [.int (iI (500 * u + i)), .ref 20, .ref 18] _ _ _ _
      refine pm_i_ald pm_a174_119 (mh_get (j := 2) hA rfl) (by omega) (by omega) ⟨by omega, by omega⟩ ?_
      show pm_E _ _ _ 120 [(0, .ref 18), (1, .int (iI x)), (2, .int (iI u)), (3, .int (iI i))] [.int (iI ((a 2) (500 * u + i))), .ref 18] _ _ _ _
      refine pm_i_callv (k := 18) (T2 := pm_mm157) pm_a174_120 rfl rfl rfl (mh_get (j := 0) hA rfl) ⟨Nat.le_of_ble_eq_true rfl, Nat.le_of_ble_eq_true rfl, rfl, by decide +kernel⟩ ?_
      show pm_E none _ _ 0 [(0, .ref 18), (1, .int (iI ((a 2) (500 * u + i))))] [] _ _ _ _
      refine M_lay hA (by omega) (by omega) ?_
      show pm_E _ _ _ 123 [(0, .ref 18), (1, .int (iI x)), (2, .int (iI u)), (3, .int (iI i))] [] _ _ _ _
      refine pm_e_inc (y := iI (i + 1)) pm_a174_123 rfl (iI_add _ _) (by decide +kernel) rfl ?_
      show pm_E _ _ _ 126 [(0, .ref 18), (1, .int (iI x)), (2, .int (iI u)), (3, .int (iI (i + 1)))] [] _ _ _ _
      refine pm_e_goto pm_a174_126 rfl ?_
      show pm_E _ _ _ 97 [(0, .ref 18), (1, .int (iI x)), (2, .int (iI u)), (3, .int (iI (i + 1)))] [] _ _ _ _
      have e1 := fA 1 (by omega)
      have e2 := fA 2 (by omega)
      refine ih (i + 1) (l ++ [a 2 (500 * u + i)]) _ _ (by omega) (by omega) (fun j hj => by simp [updS, hj, fS j hj]) (fun j hj => by simp [updA, hj, fA j hj]) ?_ ?_ ?_ ?_ ?_ (by omega)
      · show s 6 + 1 = _; rw [List.length_append, List.length_singleton]; omega
      · rw [List.length_append, List.length_singleton]; omega
      · exact rg_ext hg h6 _
      · exact updI_in h4 (by rw [e2]; exact hi2 _)
      · intro s' a' l' gS gA g6 gg
        refine k s' a' l' gS gA g6 ?_
        rw [gg, List.append_assoc, show (a0 1 u - i).toNat = (a0 1 u - (i + 1)).toNat + 1 by omega]
        show _ = l ++ (a0 2 (500 * u + i) :: _)
        rw [e2, show 500 * u + i + 1 = 500 * u + (i + 1) by omega]
        rfl
set_option maxHeartbeats 4000000 in
set_option maxRecDepth 100000 in
theorem M_read_1 {d : Nat} {A B : List va_E} {vl : Int64} {nm : Nat → Int64} {Q : Option Value → List va_E → Nat → Nat → Prop} {s0 : Nat → Int} {a0 : Nat → Int → Int} {x m : Int} (hA : A.length = 18) (hx0 : 0 ≤ x) (hx1 : x < 32) (hz0 : 0 ≤ a0 1 x) (hz1 : a0 1 x ≤ 500) (hi2 : ∀ j, in32 (a0 2 j)) : ∀ (f : Nat) (i : Int) (l : List Int) (s : Nat → Int) (a : Nat → Int → Int), 0 ≤ i → i ≤ a0 1 x → (∀ j, j ≠ 6 → s j = s0 j) → (∀ j, j ≠ 4 → a j = a0 j) → s 6 = l.length → l.length + (a0 1 x - i) ≤ 11000 → rg (a 4) l.length 0 = l → (∀ j, in32 (a 4 j)) → (∀ (s' : Nat → Int) (a' : Nat → Int → Int) (l' : List Int), (∀ j, j ≠ 6 → s' j = s0 j) → (∀ j, j ≠ 4 → a' j = a0 j) → (s' 6 = l'.length ∧ rg (a' 4) l'.length 0 = l' ∧ ∀ j, in32 (a' 4 j)) → l' = l ++ rg (a0 2) (a0 1 x - i).toNat (500 * x + i) → ∀ i', pm_E none (d + 5) pm_mm201 88 [(0, .ref 18), (1, .int (iI x)), (2, .int (iI m)), (3, .int (iI (i')))] [] (mh A s' vl a' nm B) 0 0 Q) → a0 1 x - i < (f : Int) → pm_E none (d + 5) pm_mm201 56 [(0, .ref 18), (1, .int (iI x)), (2, .int (iI m)), (3, .int (iI i))] [] (mh A s vl a nm B) 0 0 Q := by
  intro f
  induction f with
  | zero =>
    intro i l s a h0 h1 fS fA h6 hl hg h4 k hf
    exfalso; omega
  | succ f ih =>
    intro i l s a h0 h1 fS fA h6 hl hg h4 k hf
    have e1 := fA 1 (by omega)
    have e2 := fA 2 (by omega)
    have e1x : a 1 x = a0 1 x := by rw [e1]
    refine pm_e_sim pm_a201_56 rfl ?_
    show pm_E _ _ _ 57 [(0, .ref 18), (1, .int (iI x)), (2, .int (iI m)), (3, .int (iI i))] [.int (iI i)] _ _ _ _
    refine pm_e_sim pm_a201_57 rfl ?_
    show pm_E _ _ _ 58 [(0, .ref 18), (1, .int (iI x)), (2, .int (iI m)), (3, .int (iI i))] [.ref 18, .int (iI i)] _ _ _ _
    refine pm_i_get pm_a201_58 rfl (mh_get (j := 0) hA rfl) rfl ?_
    show pm_E _ _ _ 61 [(0, .ref 18), (1, .int (iI x)), (2, .int (iI m)), (3, .int (iI i))] [.ref 19, .int (iI i)] _ _ _ _
    refine pm_e_sim pm_a201_61 rfl ?_
    show pm_E _ _ _ 62 [(0, .ref 18), (1, .int (iI x)), (2, .int (iI m)), (3, .int (iI i))] [.int (iI x), .ref 19, .int (iI i)] _ _ _ _
    refine pm_i_ald pm_a201_62 (mh_get (j := 1) hA rfl) (by omega) (by omega) ⟨by omega, by omega⟩ ?_
    show pm_E _ _ _ 63 [(0, .ref 18), (1, .int (iI x)), (2, .int (iI m)), (3, .int (iI i))] [.int (iI ((a 1) (x))), .int (iI i)] _ _ _ _
    refine pm_c_ge (t := 88) pm_a201_63 rfl ⟨by omega, by omega⟩ ⟨by omega, by omega⟩ (fun h_1 => ?_) (fun h_1 => ?_)
    · skip
      show pm_E _ _ _ 88 [(0, .ref 18), (1, .int (iI x)), (2, .int (iI m)), (3, .int (iI i))] [] _ _ _ _
      have e9 := k s a l fS fA ⟨h6, hg, h4⟩ (by rw [show (a0 1 x - i).toNat = 0 by omega]; exact (List.append_nil l).symm)
      exact e9 i
    · skip
      show pm_E _ _ _ 66 [(0, .ref 18), (1, .int (iI x)), (2, .int (iI m)), (3, .int (iI i))] [] _ _ _ _
      refine pm_e_sim pm_a201_66 rfl ?_
      show pm_E _ _ _ 67 [(0, .ref 18), (1, .int (iI x)), (2, .int (iI m)), (3, .int (iI i))] [.ref 18] _ _ _ _
      refine pm_e_sim pm_a201_67 rfl ?_
      show pm_E _ _ _ 68 [(0, .ref 18), (1, .int (iI x)), (2, .int (iI m)), (3, .int (iI i))] [.ref 18, .ref 18] _ _ _ _
      refine pm_i_get pm_a201_68 rfl (mh_get (j := 0) hA rfl) rfl ?_
      show pm_E _ _ _ 71 [(0, .ref 18), (1, .int (iI x)), (2, .int (iI m)), (3, .int (iI i))] [.ref 20, .ref 18] _ _ _ _
      refine pm_e_sim pm_a201_71 rfl ?_
      refine pm_e_top (y := iI 500) (by decide +kernel) ?_
      show pm_E _ _ _ 74 [(0, .ref 18), (1, .int (iI x)), (2, .int (iI m)), (3, .int (iI i))] [.int (iI 500), .ref 20, .ref 18] _ _ _ _
      refine pm_e_sim pm_a201_74 rfl ?_
      show pm_E _ _ _ 75 [(0, .ref 18), (1, .int (iI x)), (2, .int (iI m)), (3, .int (iI i))] [.int (iI x), .int (iI 500), .ref 20, .ref 18] _ _ _ _
      refine pm_e_sim pm_a201_75 rfl ?_
      refine pm_e_top (y := iI (500 * x)) (iI_mul _ _) ?_
      show pm_E _ _ _ 76 [(0, .ref 18), (1, .int (iI x)), (2, .int (iI m)), (3, .int (iI i))] [.int (iI (500 * x)), .ref 20, .ref 18] _ _ _ _
      refine pm_e_sim pm_a201_76 rfl ?_
      show pm_E _ _ _ 77 [(0, .ref 18), (1, .int (iI x)), (2, .int (iI m)), (3, .int (iI i))] [.int (iI i), .int (iI (500 * x)), .ref 20, .ref 18] _ _ _ _
      refine pm_e_sim pm_a201_77 rfl ?_
      refine pm_e_top (y := iI (500 * x + i)) (iI_add _ _) ?_
      show pm_E _ _ _ 78 [(0, .ref 18), (1, .int (iI x)), (2, .int (iI m)), (3, .int (iI i))] [.int (iI (500 * x + i)), .ref 20, .ref 18] _ _ _ _
      refine pm_i_ald pm_a201_78 (mh_get (j := 2) hA rfl) (by omega) (by omega) ⟨by omega, by omega⟩ ?_
      show pm_E _ _ _ 79 [(0, .ref 18), (1, .int (iI x)), (2, .int (iI m)), (3, .int (iI i))] [.int (iI ((a 2) (500 * x + i))), .ref 18] _ _ _ _
      refine pm_i_callv (k := 18) (T2 := pm_mm157) pm_a201_79 rfl rfl rfl (mh_get (j := 0) hA rfl) ⟨Nat.le_of_ble_eq_true rfl, Nat.le_of_ble_eq_true rfl, rfl, by decide +kernel⟩ ?_
      show pm_E none _ _ 0 [(0, .ref 18), (1, .int (iI ((a 2) (500 * x + i))))] [] _ _ _ _
      refine M_lay hA (by omega) (by omega) ?_
      show pm_E _ _ _ 82 [(0, .ref 18), (1, .int (iI x)), (2, .int (iI m)), (3, .int (iI i))] [] _ _ _ _
      refine pm_e_inc (y := iI (i + 1)) pm_a201_82 rfl (iI_add _ _) (by decide +kernel) rfl ?_
      show pm_E _ _ _ 85 [(0, .ref 18), (1, .int (iI x)), (2, .int (iI m)), (3, .int (iI (i + 1)))] [] _ _ _ _
      refine pm_e_goto pm_a201_85 rfl ?_
      show pm_E _ _ _ 56 [(0, .ref 18), (1, .int (iI x)), (2, .int (iI m)), (3, .int (iI (i + 1)))] [] _ _ _ _
      have e1 := fA 1 (by omega)
      have e2 := fA 2 (by omega)
      refine ih (i + 1) (l ++ [a 2 (500 * x + i)]) _ _ (by omega) (by omega) (fun j hj => by simp [updS, hj, fS j hj]) (fun j hj => by simp [updA, hj, fA j hj]) ?_ ?_ ?_ ?_ ?_ (by omega)
      · show s 6 + 1 = _; rw [List.length_append, List.length_singleton]; omega
      · rw [List.length_append, List.length_singleton]; omega
      · exact rg_ext hg h6 _
      · exact updI_in h4 (by rw [e2]; exact hi2 _)
      · intro s' a' l' gS gA g6 gg
        refine k s' a' l' gS gA g6 ?_
        rw [gg, List.append_assoc, show (a0 1 x - i).toNat = (a0 1 x - (i + 1)).toNat + 1 by omega]
        show _ = l ++ (a0 2 (500 * x + i) :: _)
        rw [e2, show 500 * x + i + 1 = 500 * x + (i + 1) by omega]
        rfl
