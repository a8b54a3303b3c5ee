/-! THE REFERENCE: nextRedex -/
/-- what a step of way w may turn, and which it turns (-4: none) -/
def cnd (g : Int → Int) (w p : Int) : Prop := (w = 3 ∧ thn g p) ∨ (w ≠ 3 ∧ rdx g p = 1 ∧ (w = 1 → ∀ (m : Int) (f : Nat) (k : Int), tm g f k p m → ∀ j, p < j → j < m → rdx g j = 0) ∧ (w = 2 → ∀ j, 0 ≤ j → j ≤ p → g j = 0))
def nrx (g : Int → Int) (z w r : Int) : Prop := (r = -4 ∧ ∀ p, 0 ≤ p → p < z → ¬ cnd g w p) ∨ (0 ≤ r ∧ r < z ∧ cnd g w r ∧ ∀ p, 0 ≤ p → p < r → ¬ cnd g w p)
theorem nrx_one {g : Int → Int} {z w r r' : Int} (h : nrx g z w r) (h' : nrx g z w r') : r = r' := by
  rcases h with ⟨h1, h2⟩ | ⟨h1, h2, h3, h4⟩ <;> rcases h' with ⟨y1, y2⟩ | ⟨y1, y2, y3, y4⟩
  · omega
  · exact absurd y3 (h2 r' y1 y2)
  · exact absurd h3 (y2 r h1 h2)
  · by_cases hl : r < r'
    · exact absurd h3 (y4 r h1 hl)
    · by_cases hg : r' < r
      · exact absurd y3 (h4 r' y1 hg)
      · omega
theorem rdx_0 {g : Int → Int} {p : Int} (h : rdx g p = 1) : g p = 0 := by
  unfold rdx at h
  by_cases h0 : g p = 0
  · exact h0
  · rw [if_neg h0] at h; omega
set_option maxHeartbeats 4000000 in
set_option maxRecDepth 100000 in
theorem M_head_l {d : Nat} {A B : List va_E} {s : Nat → Int} {vl : Int64} {a : Nat → Int → Int} {nm : Nat → Int64} {Q : Option Value → List va_E → Nat → Nat → Prop} (hA : A.length = 18) (hr : ∀ j, in32 (a 4 j)) (hz : s 6 ≤ 11900) (hlf : ∃ j, 0 ≤ j ∧ j < s 6 ∧ a 4 j ≠ 0) : ∀ (f : Nat) (p : Int), 0 ≤ p → p + f = s 6 → (∀ q, 0 ≤ q → q < p → a 4 q = 0 ∧ rdx (a 4) q = 0) → (∀ r, nrx (a 4) (s 6) 2 r → Q (some (.int (iI r))) (mh A s vl a nm B) 0 0) → pm_E none (d + 1) pm_mm179 7 [(0, .ref 18), (1, .int (iI 2)), (2, .int (iI p))] [] (mh A s vl a nm B) 0 0 Q := by
  intro f
  induction f with
  | zero =>
    intro p h0 h1 hp k
    obtain ⟨j, z, y, q⟩ := hlf
    exact absurd (hp j z (by omega)).1 q
  | succ f ih =>
    intro p h0 h1 hp k
    obtain ⟨q0, q1⟩ := hr p
    refine pm_e_sim pm_a179_7 rfl ?_
    show pm_E _ _ _ 8 [(0, .ref 18), (1, .int (iI 2)), (2, .int (iI p))] [.ref 18] _ _ _ _
    refine pm_i_get pm_a179_8 rfl (mh_get (j := 0) hA rfl) rfl ?_
    show pm_E _ _ _ 11 [(0, .ref 18), (1, .int (iI 2)), (2, .int (iI p))] [.ref 22] _ _ _ _
    refine pm_e_sim pm_a179_11 rfl ?_
    show pm_E _ _ _ 12 [(0, .ref 18), (1, .int (iI 2)), (2, .int (iI p))] [.int (iI p), .ref 22] _ _ _ _
    refine pm_i_ald pm_a179_12 (mh_get (j := 4) hA rfl) (by omega) (by omega) ⟨by omega, by omega⟩ ?_
    show pm_E _ _ _ 13 [(0, .ref 18), (1, .int (iI 2)), (2, .int (iI p))] [.int (iI ((a 4) (p)))] _ _ _ _
    refine pm_i_ne (t := 30) pm_a179_13 rfl ⟨by omega, by omega⟩ (fun h_1 => ?_) (fun h_1 => ?_)
    · skip
      show pm_E _ _ _ 30 [(0, .ref 18), (1, .int (iI 2)), (2, .int (iI p))] [] _ _ _ _
      refine pm_e_sim pm_a179_30 rfl ?_
      show pm_E _ _ _ 31 [(0, .ref 18), (1, .int (iI 2)), (2, .int (iI p))] [.ref 18] _ _ _ _
      refine pm_i_get pm_a179_31 rfl (mh_get (j := 0) hA rfl) rfl ?_
      show pm_E _ _ _ 34 [(0, .ref 18), (1, .int (iI 2)), (2, .int (iI p))] [.ref 22] _ _ _ _
      refine pm_e_sim pm_a179_34 rfl ?_
      show pm_E _ _ _ 35 [(0, .ref 18), (1, .int (iI 2)), (2, .int (iI p))] [.int (iI p), .ref 22] _ _ _ _
      refine pm_i_ald pm_a179_35 (mh_get (j := 4) hA rfl) (by omega) (by omega) ⟨by omega, by omega⟩ ?_
      show pm_E _ _ _ 36 [(0, .ref 18), (1, .int (iI 2)), (2, .int (iI p))] [.int (iI ((a 4) (p)))] _ _ _ _
      refine pm_i_ne (t := 43) pm_a179_36 rfl ⟨by omega, by omega⟩ (fun h_2 => ?_) (fun h_2 => ?_)
      · skip
        show pm_E _ _ _ 43 [(0, .ref 18), (1, .int (iI 2)), (2, .int (iI p))] [] _ _ _ _
        refine pm_e_sim pm_a179_43 rfl ?_
        refine pm_e_top (y := iI (-4)) (by decide +kernel) ?_
        show pm_E _ _ _ 45 [(0, .ref 18), (1, .int (iI 2)), (2, .int (iI p))] [.int (iI (-4))] _ _ _ _
        refine pm_e_ret pm_a179_45 rfl rfl rfl rfl rfl rfl rfl rfl ?_
        refine k (-4) (Or.inl ⟨rfl, fun q z y c => ?_⟩)
        rcases c with ⟨c, _⟩ | ⟨_, c1, _, c2⟩
        · omega
        · by_cases hq : q < p
          · have := hp q z hq; omega
          · have := c2 rfl p (by omega) (by omega); omega
      · skip
        show pm_E _ _ _ 39 [(0, .ref 18), (1, .int (iI 2)), (2, .int (iI p))] [] _ _ _ _
        refine pm_e_sim pm_a179_39 rfl ?_
        show pm_E _ _ _ 40 [(0, .ref 18), (1, .int (iI 2)), (2, .int (iI p))] [.int (iI p)] _ _ _ _
        refine pm_e_goto pm_a179_40 rfl ?_
        show pm_E _ _ _ 45 [(0, .ref 18), (1, .int (iI 2)), (2, .int (iI p))] [.int (iI p)] _ _ _ _
        refine pm_e_ret pm_a179_45 rfl rfl rfl rfl rfl rfl rfl rfl ?_
        first | omega | exact k p (Or.inr ⟨by omega, by omega, Or.inr ⟨by omega, by omega, fun z => by omega, fun _ j z y => if hj : j = p then (by subst hj; omega) else (hp j z (by omega)).1⟩, fun q z y c => by rcases c with ⟨c, _⟩ | ⟨_, c1, _, _⟩ <;> first | omega | (have := (hp q z y).2; omega)⟩)
    · skip
      show pm_E _ _ _ 16 [(0, .ref 18), (1, .int (iI 2)), (2, .int (iI p))] [] _ _ _ _
      refine pm_e_sim pm_a179_16 rfl ?_
      show pm_E _ _ _ 17 [(0, .ref 18), (1, .int (iI 2)), (2, .int (iI p))] [.ref 18] _ _ _ _
      refine pm_e_sim pm_a179_17 rfl ?_
      show pm_E _ _ _ 18 [(0, .ref 18), (1, .int (iI 2)), (2, .int (iI p))] [.int (iI p), .ref 18] _ _ _ _
      refine pm_i_callv (k := 18) (T2 := pm_mm180) pm_a179_18 rfl rfl rfl (mh_get (j := 0) hA rfl) ⟨Nat.le_of_ble_eq_true rfl, Nat.le_of_ble_eq_true rfl, rfl, by decide +kernel⟩ ?_
      show pm_E none _ _ 0 [(0, .ref 18), (1, .int (iI p))] [] _ _ _ _
      refine M_isRedex hA hr (by omega) (by omega) (fun r1 e1 => ?_)
      have b1 := rdx_in (a 4) (p)
      rw [e1] at b1
      show pm_E _ _ _ 21 [(0, .ref 18), (1, .int (iI 2)), (2, .int (iI p))] [.int (iI r1)] _ _ _ _
      refine pm_i_ne (t := 30) pm_a179_21 rfl ⟨by omega, by omega⟩ (fun h_3 => ?_) (fun h_3 => ?_)
      · skip
        show pm_E _ _ _ 30 [(0, .ref 18), (1, .int (iI 2)), (2, .int (iI p))] [] _ _ _ _
        refine pm_e_sim pm_a179_30 rfl ?_
        show pm_E _ _ _ 31 [(0, .ref 18), (1, .int (iI 2)), (2, .int (iI p))] [.ref 18] _ _ _ _
        refine pm_i_get pm_a179_31 rfl (mh_get (j := 0) hA rfl) rfl ?_
        show pm_E _ _ _ 34 [(0, .ref 18), (1, .int (iI 2)), (2, .int (iI p))] [.ref 22] _ _ _ _
        refine pm_e_sim pm_a179_34 rfl ?_
        show pm_E _ _ _ 35 [(0, .ref 18), (1, .int (iI 2)), (2, .int (iI p))] [.int (iI p), .ref 22] _ _ _ _
        refine pm_i_ald pm_a179_35 (mh_get (j := 4) hA rfl) (by omega) (by omega) ⟨by omega, by omega⟩ ?_
        show pm_E _ _ _ 36 [(0, .ref 18), (1, .int (iI 2)), (2, .int (iI p))] [.int (iI ((a 4) (p)))] _ _ _ _
        refine pm_i_ne (t := 43) pm_a179_36 rfl ⟨by omega, by omega⟩ (fun h_4 => ?_) (fun h_4 => ?_)
        · skip
          show pm_E _ _ _ 43 [(0, .ref 18), (1, .int (iI 2)), (2, .int (iI p))] [] _ _ _ _
          refine pm_e_sim pm_a179_43 rfl ?_
          refine pm_e_top (y := iI (-4)) (by decide +kernel) ?_
          show pm_E _ _ _ 45 [(0, .ref 18), (1, .int (iI 2)), (2, .int (iI p))] [.int (iI (-4))] _ _ _ _
          refine pm_e_ret pm_a179_45 rfl rfl rfl rfl rfl rfl rfl rfl ?_
          refine k (-4) (Or.inl ⟨rfl, fun q z y c => ?_⟩)
          rcases c with ⟨c, _⟩ | ⟨_, c1, _, c2⟩
          · omega
          · by_cases hq : q < p
            · have := hp q z hq; omega
            · have := c2 rfl p (by omega) (by omega); omega
        · skip
          show pm_E _ _ _ 39 [(0, .ref 18), (1, .int (iI 2)), (2, .int (iI p))] [] _ _ _ _
          refine pm_e_sim pm_a179_39 rfl ?_
          show pm_E _ _ _ 40 [(0, .ref 18), (1, .int (iI 2)), (2, .int (iI p))] [.int (iI p)] _ _ _ _
          refine pm_e_goto pm_a179_40 rfl ?_
          show pm_E _ _ _ 45 [(0, .ref 18), (1, .int (iI 2)), (2, .int (iI p))] [.int (iI p)] _ _ _ _
          refine pm_e_ret pm_a179_45 rfl rfl rfl rfl rfl rfl rfl rfl ?_
          first | omega | exact k p (Or.inr ⟨by omega, by omega, Or.inr ⟨by omega, by omega, fun z => by omega, fun _ j z y => if hj : j = p then (by subst hj; omega) else (hp j z (by omega)).1⟩, fun q z y c => by rcases c with ⟨c, _⟩ | ⟨_, c1, _, _⟩ <;> first | omega | (have := (hp q z y).2; omega)⟩)
      · skip
        show pm_E _ _ _ 24 [(0, .ref 18), (1, .int (iI 2)), (2, .int (iI p))] [] _ _ _ _
        refine pm_e_inc (y := iI (p + 1)) pm_a179_24 rfl (iI_add _ _) (by decide +kernel) rfl ?_
        show pm_E _ _ _ 27 [(0, .ref 18), (1, .int (iI 2)), (2, .int (iI (p + 1)))] [] _ _ _ _
        refine pm_e_goto pm_a179_27 rfl ?_
        show pm_E _ _ _ 7 [(0, .ref 18), (1, .int (iI 2)), (2, .int (iI (p + 1)))] [] _ _ _ _
        exact ih (p + 1) (by omega) (by omega) (fun q z y => if hq : q = p then (by subst hq; omega) else hp q z (by omega)) k
