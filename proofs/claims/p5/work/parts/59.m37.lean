/-! THE REFERENCE: infers -/
theorem tm_dp_var {g D : Int → Int} : ∀ {f f' : Nat} {k p e : Int}, tm g f k p e → dp g D f' k p e → ∀ i, p ≤ i → i < e → 10 ≤ g i → g i - 10 < D i := by
  intro f
  induction f with
  | zero => intro f' k p e h; exact h.elim
  | succ f ih =>
    intro f' k p e h h' i h1 h2 h3
    cases f' with
    | zero => exact h'.elim
    | succ f' =>
      rcases h with ⟨h0, m, z1, z2⟩ | ⟨h0, z1⟩ | ⟨h0, z0, z1⟩ <;> rcases h' with ⟨hd, ⟨h0', m', y1, y2⟩ | ⟨h0', y1⟩ | ⟨h0', y1⟩⟩ <;> try omega
      · have := dp_tm_end z1 y1
        subst this
        by_cases hi : i = p
        · subst hi; omega
        · by_cases hm : i < m
          · exact ih z1 y1 i (by omega) hm h3
          · exact ih z2 y2 i (by omega) h2 h3
      · by_cases hi : i = p
        · subst hi; omega
        · exact ih z1 y1 i (by omega) h2 h3
      · have : i = p := by omega
        subst this; omega
theorem dp_leaf {g D : Int → Int} : ∀ {f : Nat} {k p e : Int}, dp g D f k p e → 2 ≤ g (e - 1) := by
  intro f
  induction f with
  | zero => intro k p e h; exact h.elim
  | succ f ih =>
    intro k p e h
    rcases h with ⟨_, ⟨_, m, _, h2⟩ | ⟨_, h1⟩ | ⟨h0, h1⟩⟩
    · exact ih h2
    · exact ih h1
    · rw [h1, show p + 1 - 1 = p by omega]; exact h0
theorem dp_head {g D : Int → Int} {f : Nat} {k p e : Int} (h : dp g D f k p e) : D p = k := by
  cases f with
  | zero => exact h.elim
  | succ f => exact h.1
theorem dp_next {g D : Int → Int} : ∀ {f : Nat} {k p e : Int}, dp g D f k p e → ∀ i, p ≤ i → i + 1 < e → (g i = 1 → D (i + 1) = D i + 1) ∧ (g i ≠ 1 → D (i + 1) ≤ D i) := by
  intro f
  induction f with
  | zero => intro k p e h; exact h.elim
  | succ f ih =>
    intro k p e h i h1 h2
    rcases h with ⟨hd, ⟨h0, m, z1, z2⟩ | ⟨h0, z1⟩ | ⟨h0, z1⟩⟩
    · have l1 := dp_lt z1; have l2 := dp_lt z2
      by_cases hi : i = p
      · subst hi
        have := dp_head z1
        exact ⟨fun z => by omega, fun _ => by omega⟩
      · by_cases hm : i + 1 < m
        · exact ih z1 i (by omega) hm
        · by_cases hm2 : i + 1 = m
          · have a1 := dp_leaf z1
            rw [show m - 1 = i by omega] at a1
            have a2 := dp_head z2
            have a3 := dp_in z1 i (by omega) (by omega)
            rw [hm2]
            exact ⟨fun z => by omega, fun _ => by omega⟩
          · exact ih z2 i (by omega) h2
    · have l1 := dp_lt z1
      by_cases hi : i = p
      · subst hi
        have := dp_head z1
        exact ⟨fun _ => by omega, fun z => absurd h0 z⟩
      · exact ih z1 i (by omega) h2
    · omega
/-- from p to z stand n terms, one behind another -/
def fo (g : Int → Int) : Nat → Int → Int → Prop
  | 0, p, z => p = z
  | n + 1, p, z => ∃ (m : Int) (f : Nat) (k : Int), tm g f k p m ∧ fo g n m z
theorem fo_le {g : Int → Int} : ∀ {n : Nat} {p z : Int}, fo g n p z → p + n ≤ z := by
  intro n
  induction n with
  | zero => intro p z h; rw [show p = z from h]; omega
  | succ n ih =>
    intro p z h
    obtain ⟨m, f, k, t, h2⟩ := h
    have := tm_lt t; have := ih h2
    omega
theorem fo_cut {g : Int → Int} {n : Nat} {p e z : Int} {f : Nat} {k : Int} (h : fo g n p z) (t : tm g f k p e) (he : e ≤ z) : ∃ n', n = n' + 1 ∧ fo g n' e z := by
  cases n with
  | zero =>
    have := tm_lt t
    have : p = z := h
    omega
  | succ n =>
    obtain ⟨m, f', k', t', h2⟩ := h
    have := tm_one t t'
    subst this
    exact ⟨n, rfl, h2⟩
set_option maxHeartbeats 4000000 in
set_option maxRecDepth 100000 in
theorem M_infers_1 {d : Nat} {A B : List va_E} {vl : Int64} {nm : Nat → Int64} {Q : Option Value → List va_E → Nat → Nat → Prop} {s0 : Nat → Int} {a0 : Nat → Int → Int} {x : Int} {ff fd : Nat} (hA : A.length = 18) (h6 : 1 ≤ s0 6) (h61 : s0 6 ≤ 500) (hr : ∀ j, in32 (a0 4 j)) (ht : tm (a0 4) ff 0 0 (s0 6)) (hd : dp (a0 4) (a0 5) fd 0 0 (s0 6)) : ∀ (f : Nat) (i : Int) (s : Nat → Int) (a : Nat → Int → Int), 0 ≤ i → i ≤ s0 6 → (∀ j, j ≠ 32 → s j = s0 j) → (∀ j, j ≠ 17 → j ≠ 18 → j ≠ 19 → j ≠ 20 → j ≠ 21 → j ≠ 24 → j ≠ 25 → j ≠ 26 → j ≠ 27 → a j = a0 j) → FI (a 17) (a 18) (a 19) (s 32) → (0 ≤ x ∧ x < s 32) → s 32 ≤ 1 + i → (∀ q, 0 ≤ q → q < a0 5 i → i < s0 6 → 0 ≤ a 26 q ∧ a 26 q < i ∧ a0 4 (a 26 q) = 1) → (∀ q, 0 ≤ q → q < i → a0 4 q = 1 → 0 ≤ a 25 q ∧ a 25 q < s 32) → (∀ q, 0 ≤ q → q < i → 10 ≤ a0 4 q → 0 ≤ a 24 q ∧ a 24 q < s0 6 ∧ a0 4 (a 24 q) = 1) → (∀ (s : Nat → Int) (a : Nat → Int → Int), (∀ j, j ≠ 32 → s j = s0 j) → (∀ j, j ≠ 17 → j ≠ 18 → j ≠ 19 → j ≠ 20 → j ≠ 21 → j ≠ 24 → j ≠ 25 → j ≠ 26 → j ≠ 27 → a j = a0 j) → FI (a 17) (a 18) (a 19) (s 32) → (0 ≤ x ∧ x < s 32) → s 32 ≤ 501 → (∀ q, 0 ≤ q → q < s0 6 → a0 4 q = 1 → 0 ≤ a 25 q ∧ a 25 q < s 32) → (∀ q, 0 ≤ q → q < s0 6 → 10 ≤ a0 4 q → 0 ≤ a 24 q ∧ a 24 q < s0 6 ∧ a0 4 (a 24 q) = 1) → ∀ i', pm_E none (d + 3) pm_mm203 106 [(0, .ref 18), (1, .int (iI x)), (2, .int (iI (i')))] [] (mh A s vl a nm B) 0 0 Q) → s0 6 - i < (f : Int) → pm_E none (d + 3) pm_mm203 17 [(0, .ref 18), (1, .int (iI x)), (2, .int (iI i))] [] (mh A s vl a nm B) 0 0 Q := by
  intro f
  induction f with
  | zero =>
    intro i s a h0 h1 fS fA hF hx hk hat0 hlt hbi k hf
    exfalso; omega
  | succ f ih =>
    intro i s a h0 h1 fS fA hF hx hk hat0 hlt hbi k hf
    have e4 : a 4 = a0 4 := fA 4 (by omega) (by omega) (by omega) (by omega) (by omega) (by omega) (by omega) (by omega) (by omega)
    have e5 : a 5 = a0 5 := fA 5 (by omega) (by omega) (by omega) (by omega) (by omega) (by omega) (by omega) (by omega) (by omega)
    have e6 := fS 6 (by omega)
    have e4i : a 4 i = a0 4 i := by rw [e4]
    have e5i : a 5 i = a0 5 i := by rw [e5]
    have hri := hr i
    have hK := hF.1
    have hat : i < s0 6 → ∀ q, 0 ≤ q → q < a0 5 i → 0 ≤ a 26 q ∧ a 26 q < i ∧ a0 4 (a 26 q) = 1 := fun z q y y2 => hat0 q y y2 z
    have hdi := fun z => dp_in hd i (by omega) z
    refine pm_e_sim pm_a203_17 rfl ?_
    show pm_E _ _ _ 18 [(0, .ref 18), (1, .int (iI x)), (2, .int (iI i))] [.int (iI i)] _ _ _ _
    refine pm_e_sim pm_a203_18 rfl ?_
    show pm_E _ _ _ 19 [(0, .ref 18), (1, .int (iI x)), (2, .int (iI i))] [.ref 18, .int (iI i)] _ _ _ _
    refine pm_i_get pm_a203_19 rfl (mh_get (j := 0) hA rfl) rfl ?_
    show pm_E _ _ _ 22 [(0, .ref 18), (1, .int (iI x)), (2, .int (iI i))] [.int (iI (s 6)), .int (iI i)] _ _ _ _
    refine pm_c_ge (t := 106) pm_a203_22 rfl ⟨by omega, by omega⟩ ⟨by omega, by omega⟩ (fun h_1 => ?_) (fun h_1 => ?_)
    · skip
      show pm_E _ _ _ 106 [(0, .ref 18), (1, .int (iI x)), (2, .int (iI i))] [] _ _ _ _
      have hi9 : i = s0 6 := by omega
      subst hi9
      exact k s a fS fA hF hx (by omega) hlt hbi _
    · skip
      show pm_E _ _ _ 25 [(0, .ref 18), (1, .int (iI x)), (2, .int (iI i))] [] _ _ _ _
      refine pm_e_sim pm_a203_25 rfl ?_
      show pm_E _ _ _ 26 [(0, .ref 18), (1, .int (iI x)), (2, .int (iI i))] [.ref 18] _ _ _ _
      refine pm_i_get pm_a203_26 rfl (mh_get (j := 0) hA rfl) rfl ?_
      show pm_E _ _ _ 29 [(0, .ref 18), (1, .int (iI x)), (2, .int (iI i))] [.ref 22] _ _ _ _
      refine pm_e_sim pm_a203_29 rfl ?_
      show pm_E _ _ _ 30 [(0, .ref 18), (1, .int (iI x)), (2, .int (iI i))] [.int (iI i), .ref 22] _ _ _ _
      refine pm_i_ald pm_a203_30 (mh_get (j := 4) hA rfl) (by omega) (by omega) ⟨by omega, by omega⟩ ?_
      show pm_E _ _ _ 31 [(0, .ref 18), (1, .int (iI x)), (2, .int (iI i))] [.int (iI ((a 4) (i)))] _ _ _ _
      refine pm_e_sim pm_a203_31 rfl ?_
      refine pm_e_top (y := iI 1) (by decide +kernel) ?_
      show pm_E _ _ _ 32 [(0, .ref 18), (1, .int (iI x)), (2, .int (iI i))] [.int (iI 1), .int (iI ((a 4) (i)))] _ _ _ _
      refine pm_c_ne (t := 60) pm_a203_32 rfl ⟨by omega, by omega⟩ ⟨by omega, by omega⟩ (fun h_2 => ?_) (fun h_2 => ?_)
      · skip
        show pm_E _ _ _ 60 [(0, .ref 18), (1, .int (iI x)), (2, .int (iI i))] [] _ _ _ _
        refine pm_e_sim pm_a203_60 rfl ?_
        show pm_E _ _ _ 61 [(0, .ref 18), (1, .int (iI x)), (2, .int (iI i))] [.ref 18] _ _ _ _
        refine pm_i_get pm_a203_61 rfl (mh_get (j := 0) hA rfl) rfl ?_
        show pm_E _ _ _ 64 [(0, .ref 18), (1, .int (iI x)), (2, .int (iI i))] [.ref 22] _ _ _ _
        refine pm_e_sim pm_a203_64 rfl ?_
        show pm_E _ _ _ 65 [(0, .ref 18), (1, .int (iI x)), (2, .int (iI i))] [.int (iI i), .ref 22] _ _ _ _
        refine pm_i_ald pm_a203_65 (mh_get (j := 4) hA rfl) (by omega) (by omega) ⟨by omega, by omega⟩ ?_
        show pm_E _ _ _ 66 [(0, .ref 18), (1, .int (iI x)), (2, .int (iI i))] [.int (iI ((a 4) (i)))] _ _ _ _
        refine pm_e_sim pm_a203_66 rfl ?_
        refine pm_e_top (y := iI 9) (by decide +kernel) ?_
        show pm_E _ _ _ 68 [(0, .ref 18), (1, .int (iI x)), (2, .int (iI i))] [.int (iI 9), .int (iI ((a 4) (i)))] _ _ _ _
        refine pm_c_le (t := 100) pm_a203_68 rfl ⟨by omega, by omega⟩ ⟨by omega, by omega⟩ (fun h_3 => ?_) (fun h_3 => ?_)
        · skip
          show pm_E _ _ _ 100 [(0, .ref 18), (1, .int (iI x)), (2, .int (iI i))] [] _ _ _ _
          refine pm_e_inc (y := iI (i + 1)) pm_a203_100 rfl (iI_add _ _) (by decide +kernel) rfl ?_
          show pm_E _ _ _ 103 [(0, .ref 18), (1, .int (iI x)), (2, .int (iI (i + 1)))] [] _ _ _ _
          refine pm_e_goto pm_a203_103 rfl ?_
          show pm_E _ _ _ 17 [(0, .ref 18), (1, .int (iI x)), (2, .int (iI (i + 1)))] [] _ _ _ _
          refine ih (i + 1) s a (by omega) (by omega) fS fA hF (by omega) (by omega) (fun q z y y2 => ?_) (fun q z y y2 => ?_) (fun q z y y2 => ?_) k (by omega)
          · have hn := (dp_next hd i (by omega) y2).2 (by omega)
            have := hat (by omega) q z (by omega); exact ⟨this.1, by omega, this.2.2⟩
          · by_cases hq : q = i
            · subst hq; omega
            · exact hlt q z (by omega) y2
          · by_cases hq : q = i
            · subst hq; omega
            · exact hbi q z (by omega) y2
        · skip
          show pm_E _ _ _ 71 [(0, .ref 18), (1, .int (iI x)), (2, .int (iI i))] [] _ _ _ _
          refine pm_e_sim pm_a203_71 rfl ?_
          show pm_E _ _ _ 72 [(0, .ref 18), (1, .int (iI x)), (2, .int (iI i))] [.ref 18] _ _ _ _
          refine pm_i_get pm_a203_72 rfl (mh_get (j := 0) hA rfl) rfl ?_
          show pm_E _ _ _ 75 [(0, .ref 18), (1, .int (iI x)), (2, .int (iI i))] [.ref 42] _ _ _ _
          refine pm_e_sim pm_a203_75 rfl ?_
          show pm_E _ _ _ 76 [(0, .ref 18), (1, .int (iI x)), (2, .int (iI i))] [.int (iI i), .ref 42] _ _ _ _
          refine pm_e_sim pm_a203_76 rfl ?_
          show pm_E _ _ _ 77 [(0, .ref 18), (1, .int (iI x)), (2, .int (iI i))] [.ref 18, .int (iI i), .ref 42] _ _ _ _
          refine pm_i_get pm_a203_77 rfl (mh_get (j := 0) hA rfl) rfl ?_
          show pm_E _ _ _ 80 [(0, .ref 18), (1, .int (iI x)), (2, .int (iI i))] [.ref 44, .int (iI i), .ref 42] _ _ _ _
          refine pm_e_sim pm_a203_80 rfl ?_
          show pm_E _ _ _ 81 [(0, .ref 18), (1, .int (iI x)), (2, .int (iI i))] [.ref 18, .ref 44, .int (iI i), .ref 42] _ _ _ _
          refine pm_i_get pm_a203_81 rfl (mh_get (j := 0) hA rfl) rfl ?_
          show pm_E _ _ _ 84 [(0, .ref 18), (1, .int (iI x)), (2, .int (iI i))] [.ref 23, .ref 44, .int (iI i), .ref 42] _ _ _ _
          refine pm_e_sim pm_a203_84 rfl ?_
          show pm_E _ _ _ 85 [(0, .ref 18), (1, .int (iI x)), (2, .int (iI i))] [.int (iI i), .ref 23, .ref 44, .int (iI i), .ref 42] _ _ _ _
          refine pm_i_ald pm_a203_85 (mh_get (j := 5) hA rfl) (by omega) (by omega) ⟨by omega, by omega⟩ ?_
          show pm_E _ _ _ 86 [(0, .ref 18), (1, .int (iI x)), (2, .int (iI i))] [.int (iI ((a 5) (i))), .ref 44, .int (iI i), .ref 42] _ _ _ _
          refine pm_e_sim pm_a203_86 rfl ?_
          refine pm_e_top (y := iI 1) (by decide +kernel) ?_
          show pm_E _ _ _ 87 [(0, .ref 18), (1, .int (iI x)), (2, .int (iI i))] [.int (iI 1), .int (iI ((a 5) (i))), .ref 44, .int (iI i), .ref 42] _ _ _ _
          refine pm_e_sim pm_a203_87 rfl ?_
          refine pm_e_top (y := iI ((a 5) (i) - 1)) (iI_sub _ _) ?_
          show pm_E _ _ _ 88 [(0, .ref 18), (1, .int (iI x)), (2, .int (iI i))] [.int (iI ((a 5) (i) - 1)), .ref 44, .int (iI i), .ref 42] _ _ _ _
          refine pm_e_sim pm_a203_88 rfl ?_
          show pm_E _ _ _ 89 [(0, .ref 18), (1, .int (iI x)), (2, .int (iI i))] [.ref 18, .int (iI ((a 5) (i) - 1)), .ref 44, .int (iI i), .ref 42] _ _ _ _
          refine pm_i_get pm_a203_89 rfl (mh_get (j := 0) hA rfl) rfl ?_
          show pm_E _ _ _ 92 [(0, .ref 18), (1, .int (iI x)), (2, .int (iI i))] [.ref 22, .int (iI ((a 5) (i) - 1)), .ref 44, .int (iI i), .ref 42] _ _ _ _
          refine pm_e_sim pm_a203_92 rfl ?_
          show pm_E _ _ _ 93 [(0, .ref 18), (1, .int (iI x)), (2, .int (iI i))] [.int (iI i), .ref 22, .int (iI ((a 5) (i) - 1)), .ref 44, .int (iI i), .ref 42] _ _ _ _
          refine pm_i_ald pm_a203_93 (mh_get (j := 4) hA rfl) (by omega) (by omega) ⟨by omega, by omega⟩ ?_
          show pm_E _ _ _ 94 [(0, .ref 18), (1, .int (iI x)), (2, .int (iI i))] [.int (iI ((a 4) (i))), .int (iI ((a 5) (i) - 1)), .ref 44, .int (iI i), .ref 42] _ _ _ _
          refine pm_e_sim pm_a203_94 rfl ?_
          refine pm_e_top (y := iI 10) (by decide +kernel) ?_
          show pm_E _ _ _ 96 [(0, .ref 18), (1, .int (iI x)), (2, .int (iI i))] [.int (iI 10), .int (iI ((a 4) (i))), .int (iI ((a 5) (i) - 1)), .ref 44, .int (iI i), .ref 42] _ _ _ _
          refine pm_e_sim pm_a203_96 rfl ?_
          refine pm_e_top (y := iI ((a 4) (i) - 10)) (iI_sub _ _) ?_
          show pm_E _ _ _ 97 [(0, .ref 18), (1, .int (iI x)), (2, .int (iI i))] [.int (iI ((a 4) (i) - 10)), .int (iI ((a 5) (i) - 1)), .ref 44, .int (iI i), .ref 42] _ _ _ _
          refine pm_e_sim pm_a203_97 rfl ?_
          refine pm_e_top (y := iI ((a 5) (i) - 1 - ((a 4) (i) - 10))) (iI_sub _ _) ?_
          show pm_E _ _ _ 98 [(0, .ref 18), (1, .int (iI x)), (2, .int (iI i))] [.int (iI ((a 5) (i) - 1 - ((a 4) (i) - 10))), .ref 44, .int (iI i), .ref 42] _ _ _ _
          have hdi2 := hdi (by omega)
          have hvv := tm_dp_var ht hd i (by omega) (by omega) (by omega)
          have hv := hat (by omega) (a 5 i - 1 - (a 4 i - 10)) (by omega) (by omega)
          refine pm_i_ald pm_a203_98 (mh_get (j := 26) hA rfl) (by omega) (by omega) ⟨by omega, by omega⟩ ?_
          show pm_E _ _ _ 99 [(0, .ref 18), (1, .int (iI x)), (2, .int (iI i))] [.int (iI ((a 26) ((a 5) (i) - 1 - ((a 4) (i) - 10)))), .int (iI i), .ref 42] _ _ _ _
          refine pm_i_ast pm_a203_99 (mh_get (j := 24) hA rfl) (by omega) (by omega) ⟨by omega, by omega⟩ (ma_24 hA _) ?_
          show pm_E _ _ _ 100 [(0, .ref 18), (1, .int (iI x)), (2, .int (iI i))] [] _ _ _ _
          refine pm_e_inc (y := iI (i + 1)) pm_a203_100 rfl (iI_add _ _) (by decide +kernel) rfl ?_
          show pm_E _ _ _ 103 [(0, .ref 18), (1, .int (iI x)), (2, .int (iI (i + 1)))] [] _ _ _ _
          refine pm_e_goto pm_a203_103 rfl ?_
          show pm_E _ _ _ 17 [(0, .ref 18), (1, .int (iI x)), (2, .int (iI (i + 1)))] [] _ _ _ _
          refine ih (i + 1) s _ (by omega) (by omega) fS (fun j q1 q2 q3 q4 q5 q6 q7 q8 q9 => by simp [updA, q6, fA j q1 q2 q3 q4 q5 q6 q7 q8 q9]) hF (by omega) (by omega) (fun q z y y2 => ?_) (fun q z y y2 => ?_) (fun q z y y2 => ?_) k (by omega)
          · have hn := (dp_next hd i (by omega) y2).2 (by omega)
            have := hat (by omega) q z (by omega); exact ⟨this.1, by show a 26 q < i + 1; omega, this.2.2⟩
          · by_cases hq : q = i
            · subst hq; omega
            · exact hlt q z (by omega) y2
          · show 0 ≤ updI (a 24) i _ q ∧ updI (a 24) i _ q < s0 6 ∧ a0 4 (updI (a 24) i _ q) = 1
            by_cases hq : q = i
            · rw [hq, updI_s]; exact ⟨hv.1, by omega, hv.2.2⟩
            · rw [updI_n _ _ hq]; exact hbi q z (by omega) y2
      · skip
        show pm_E _ _ _ 35 [(0, .ref 18), (1, .int (iI x)), (2, .int (iI i))] [] _ _ _ _
        refine pm_e_sim pm_a203_35 rfl ?_
        show pm_E _ _ _ 36 [(0, .ref 18), (1, .int (iI x)), (2, .int (iI i))] [.ref 18] _ _ _ _
        refine pm_i_get pm_a203_36 rfl (mh_get (j := 0) hA rfl) rfl ?_
        show pm_E _ _ _ 39 [(0, .ref 18), (1, .int (iI x)), (2, .int (iI i))] [.ref 44] _ _ _ _
        refine pm_e_sim pm_a203_39 rfl ?_
        show pm_E _ _ _ 40 [(0, .ref 18), (1, .int (iI x)), (2, .int (iI i))] [.ref 18, .ref 44] _ _ _ _
        refine pm_i_get pm_a203_40 rfl (mh_get (j := 0) hA rfl) rfl ?_
        show pm_E _ _ _ 43 [(0, .ref 18), (1, .int (iI x)), (2, .int (iI i))] [.ref 23, .ref 44] _ _ _ _
        refine pm_e_sim pm_a203_43 rfl ?_
        show pm_E _ _ _ 44 [(0, .ref 18), (1, .int (iI x)), (2, .int (iI i))] [.int (iI i), .ref 23, .ref 44] _ _ _ _
        refine pm_i_ald pm_a203_44 (mh_get (j := 5) hA rfl) (by omega) (by omega) ⟨by omega, by omega⟩ ?_
        show pm_E _ _ _ 45 [(0, .ref 18), (1, .int (iI x)), (2, .int (iI i))] [.int (iI ((a 5) (i))), .ref 44] _ _ _ _
        refine pm_e_sim pm_a203_45 rfl ?_
        show pm_E _ _ _ 46 [(0, .ref 18), (1, .int (iI x)), (2, .int (iI i))] [.int (iI i), .int (iI ((a 5) (i))), .ref 44] _ _ _ _
        have hdi2 := hdi (by omega)
        refine pm_i_ast pm_a203_46 (mh_get (j := 26) hA rfl) (by omega) (by omega) ⟨by omega, by omega⟩ (ma_26 hA _) ?_
        show pm_E _ _ _ 47 [(0, .ref 18), (1, .int (iI x)), (2, .int (iI i))] [] _ _ _ _
        refine pm_e_sim pm_a203_47 rfl ?_
        show pm_E _ _ _ 48 [(0, .ref 18), (1, .int (iI x)), (2, .int (iI i))] [.ref 18] _ _ _ _
        refine pm_i_get pm_a203_48 rfl (mh_get (j := 0) hA rfl) rfl ?_
        show pm_E _ _ _ 51 [(0, .ref 18), (1, .int (iI x)), (2, .int (iI i))] [.ref 43] _ _ _ _
        refine pm_e_sim pm_a203_51 rfl ?_
        show pm_E _ _ _ 52 [(0, .ref 18), (1, .int (iI x)), (2, .int (iI i))] [.int (iI i), .ref 43] _ _ _ _
        refine pm_e_sim pm_a203_52 rfl ?_
        show pm_E _ _ _ 53 [(0, .ref 18), (1, .int (iI x)), (2, .int (iI i))] [.ref 18, .int (iI i), .ref 43] _ _ _ _
        refine pm_i_callv (k := 18) (T2 := pm_mm204) pm_a203_53 rfl rfl rfl (mh_get (j := 0) hA rfl) ⟨Nat.le_of_ble_eq_true rfl, Nat.le_of_ble_eq_true rfl, rfl, by decide +kernel⟩ ?_
        show pm_E none _ _ 0 [(0, .ref 18)] [] _ _ _ _
        refine M_anyF (s := s) (a := updA a 26 (updI (a 26) (a 5 i) i)) hA hF (by omega) (fun s1 a1 hF1 eK gs ga => ?_)
        show pm_E _ _ _ 56 [(0, .ref 18), (1, .int (iI x)), (2, .int (iI i))] [.int (iI (s 32)), .int (iI i), .ref 43] _ _ _ _
        refine pm_i_ast pm_a203_56 (mh_get (j := 25) hA rfl) (by omega) (by omega) ⟨by omega, by omega⟩ (ma_25 hA _) ?_
        show pm_E _ _ _ 57 [(0, .ref 18), (1, .int (iI x)), (2, .int (iI i))] [] _ _ _ _
        refine pm_e_goto pm_a203_57 rfl ?_
        show pm_E _ _ _ 100 [(0, .ref 18), (1, .int (iI x)), (2, .int (iI i))] [] _ _ _ _
        refine pm_e_inc (y := iI (i + 1)) pm_a203_100 rfl (iI_add _ _) (by decide +kernel) rfl ?_
        show pm_E _ _ _ 103 [(0, .ref 18), (1, .int (iI x)), (2, .int (iI (i + 1)))] [] _ _ _ _
        refine pm_e_goto pm_a203_103 rfl ?_
        show pm_E _ _ _ 17 [(0, .ref 18), (1, .int (iI x)), (2, .int (iI (i + 1)))] [] _ _ _ _
        have n25 : a1 25 = a 25 := ga 25 (by omega) (by omega) (by omega)
        have n24 : a1 24 = a 24 := ga 24 (by omega) (by omega) (by omega)
        have n26 : a1 26 = updI (a 26) (a 5 i) i := ga 26 (by omega) (by omega) (by omega)
        refine ih (i + 1) s1 _ (by omega) (by omega) (fun j h => by rw [gs j h]; exact fS j h) (fun j q1 q2 q3 q4 q5 q6 q7 q8 q9 => by simp [updA, q7, ga j q1 q2 q3, q8, fA j q1 q2 q3 q4 q5 q6 q7 q8 q9]) hF1 (by omega) (by omega) (fun q z y y2 => ?_) (fun q z y y2 => ?_) (fun q z y y2 => ?_) k (by omega)
        · have hn := (dp_next hd i (by omega) y2).1 (by omega)
          show 0 ≤ a1 26 q ∧ a1 26 q < i + 1 ∧ a0 4 (a1 26 q) = 1
          rw [n26, e5i]
          by_cases hq : q = a0 5 i
          · rw [hq, updI_s]; exact ⟨by omega, by omega, by omega⟩
          · rw [updI_n _ _ hq]; have := hat (by omega) q z (by omega); exact ⟨this.1, by omega, this.2.2⟩
        · show 0 ≤ updI (a1 25) i (s 32) q ∧ updI (a1 25) i (s 32) q < s1 32
          by_cases hq : q = i
          · rw [hq, updI_s]; omega
          · rw [updI_n _ _ hq, n25]; have := hlt q z (by omega) y2; omega
        · show 0 ≤ a1 24 q ∧ a1 24 q < s0 6 ∧ a0 4 (a1 24 q) = 1
          rw [n24]
          by_cases hq : q = i
          · subst hq; omega
          · exact hbi q z (by omega) y2
set_option maxHeartbeats 4000000 in
set_option maxRecDepth 100000 in
theorem M_infers_2 {d : Nat} {A B : List va_E} {vl : Int64} {nm : Nat → Int64} {Q : Option Value → List va_E → Nat → Nat → Prop} {s0 : Nat → Int} {a0 : Nat → Int → Int} {x : Int} {ff fd : Nat} (hA : A.length = 18) (h6 : 1 ≤ s0 6) (h61 : s0 6 ≤ 500) (hr : ∀ j, in32 (a0 4 j)) (ht : tm (a0 4) ff 0 0 (s0 6)) (hd : dp (a0 4) (a0 5) fd 0 0 (s0 6)) (k : ∀ r s a, 0 ≤ r → r < s 32 → (∀ j, j ≠ 32 → s j = s0 j) → (∀ j, j ≠ 17 → j ≠ 18 → j ≠ 19 → j ≠ 20 → j ≠ 21 → j ≠ 24 → j ≠ 25 → j ≠ 26 → j ≠ 27 → a j = a0 j) → FI (a 17) (a 18) (a 19) (s 32) → s 32 ≤ 6000 → Q (some (.int (iI r))) (mh A s vl a nm B) 0 0) : ∀ (f : Nat) (i w : Int) (s : Nat → Int) (a : Nat → Int → Int), -1 ≤ i → i < s0 6 → (∀ j, j ≠ 32 → s j = s0 j) → (∀ j, j ≠ 17 → j ≠ 18 → j ≠ 19 → j ≠ 20 → j ≠ 21 → j ≠ 24 → j ≠ 25 → j ≠ 26 → j ≠ 27 → a j = a0 j) → FI (a 17) (a 18) (a 19) (s 32) → (0 ≤ x ∧ x < s 32) → s 32 ≤ 501 + 9 * (s0 6 - 1 - i) → (∀ q, 0 ≤ q → q < s0 6 → a0 4 q = 1 → 0 ≤ a 25 q ∧ a 25 q < s 32) → (∀ q, 0 ≤ q → q < s0 6 → 10 ≤ a0 4 q → 0 ≤ a 24 q ∧ a 24 q < s0 6 ∧ a0 4 (a 24 q) = 1) → (∀ q, 0 ≤ q → q < w → 0 ≤ a 27 q ∧ a 27 q < s 32) → (∃ no : Nat, w = no ∧ fo (a0 4) no (i + 1) (s0 6)) → i + 1 < (f : Int) → pm_E none (d + 3) pm_mm203 115 [(0, .ref 18), (1, .int (iI x)), (2, .int (iI w)), (3, .int (iI i))] [] (mh A s vl a nm B) 0 0 Q := by
  intro f
  induction f with
  | zero =>
    intro i w s a h0 h1 fS fA hF hx hk hlt hbi hpi hfo hf
    exfalso; omega
  | succ f ih =>
    intro i w s a h0 h1 fS fA hF hx hk hlt hbi hpi hfo hf
    have e4 : a 4 = a0 4 := fA 4 (by omega) (by omega) (by omega) (by omega) (by omega) (by omega) (by omega) (by omega) (by omega)
    have e5 : a 5 = a0 5 := fA 5 (by omega) (by omega) (by omega) (by omega) (by omega) (by omega) (by omega) (by omega) (by omega)
    have e6 := fS 6 (by omega)
    have e4i : a 4 i = a0 4 i := by rw [e4]
    have e5i : a 5 i = a0 5 i := by rw [e5]
    have hri := hr i
    have hK := hF.1
    refine pm_e_sim pm_a203_115 rfl ?_
    show pm_E _ _ _ 116 [(0, .ref 18), (1, .int (iI x)), (2, .int (iI w)), (3, .int (iI i))] [.int (iI i)] _ _ _ _
    refine pm_i_lt (t := 263) pm_a203_116 rfl ⟨by omega, by omega⟩ (fun h_1 => ?_) (fun h_1 => ?_)
    · skip
      show pm_E _ _ _ 263 [(0, .ref 18), (1, .int (iI x)), (2, .int (iI w)), (3, .int (iI i))] [] _ _ _ _
      refine pm_e_sim pm_a203_263 rfl ?_
      show pm_E _ _ _ 264 [(0, .ref 18), (1, .int (iI x)), (2, .int (iI w)), (3, .int (iI i))] [.ref 18] _ _ _ _
      refine pm_i_get pm_a203_264 rfl (mh_get (j := 0) hA rfl) rfl ?_
      show pm_E _ _ _ 267 [(0, .ref 18), (1, .int (iI x)), (2, .int (iI w)), (3, .int (iI i))] [.ref 45] _ _ _ _
      refine pm_e_sim pm_a203_267 rfl ?_
      refine pm_e_top (y := iI 0) (by decide +kernel) ?_
      show pm_E _ _ _ 268 [(0, .ref 18), (1, .int (iI x)), (2, .int (iI w)), (3, .int (iI i))] [.int (iI 0), .ref 45] _ _ _ _
      have hp0 : 0 ≤ a 27 0 ∧ a 27 0 < s 32 := by
        obtain ⟨no, hno, hfo⟩ := hfo
        rw [show i + 1 = 0 by omega] at hfo
        obtain ⟨n1, e1, hf1⟩ := fo_cut hfo ht (by omega)
        exact hpi 0 (by omega) (by omega)
      refine pm_i_ald pm_a203_268 (mh_get (j := 27) hA rfl) (by omega) (by omega) ⟨by omega, by omega⟩ ?_
      show pm_E _ _ _ 269 [(0, .ref 18), (1, .int (iI x)), (2, .int (iI w)), (3, .int (iI i))] [.int (iI ((a 27) (0)))] _ _ _ _
      refine pm_e_ret pm_a203_269 rfl rfl rfl rfl rfl rfl rfl rfl ?_
      obtain ⟨no, hno, hfo⟩ := hfo
      exact k _ s a hp0.1 hp0.2 fS fA hF (by omega)
    · skip
      show pm_E _ _ _ 119 [(0, .ref 18), (1, .int (iI x)), (2, .int (iI w)), (3, .int (iI i))] [] _ _ _ _
      refine pm_e_sim pm_a203_119 rfl ?_
      show pm_E _ _ _ 120 [(0, .ref 18), (1, .int (iI x)), (2, .int (iI w)), (3, .int (iI i))] [.ref 18] _ _ _ _
      refine pm_i_get pm_a203_120 rfl (mh_get (j := 0) hA rfl) rfl ?_
      show pm_E _ _ _ 123 [(0, .ref 18), (1, .int (iI x)), (2, .int (iI w)), (3, .int (iI i))] [.ref 22] _ _ _ _
      refine pm_e_sim pm_a203_123 rfl ?_
      show pm_E _ _ _ 124 [(0, .ref 18), (1, .int (iI x)), (2, .int (iI w)), (3, .int (iI i))] [.int (iI i), .ref 22] _ _ _ _
      obtain ⟨fe, ke, e, te, hee, _⟩ := tm_sub ht i (by omega) (by omega)
      have lte := tm_lt te
      have hbd := tm_bd ht (by omega) i (by omega) (by omega)
      have hle : (0 : Int) ≤ w ∧ w ≤ s0 6 - (i + 1) := by obtain ⟨no, hno, hfo⟩ := hfo; have := fo_le hfo; omega
      refine pm_i_ald pm_a203_124 (mh_get (j := 4) hA rfl) (by omega) (by omega) ⟨by omega, by omega⟩ ?_
      show pm_E _ _ _ 125 [(0, .ref 18), (1, .int (iI x)), (2, .int (iI w)), (3, .int (iI i))] [.int (iI ((a 4) (i)))] _ _ _ _
      refine pm_e_sim pm_a203_125 rfl ?_
      show pm_E _ _ _ 127 [(0, .ref 18), (1, .int (iI x)), (2, .int (iI w)), (3, .int (iI i)), (4, .int (iI ((a 4) (i))))] [] _ _ _ _
      refine pm_e_sim pm_a203_127 rfl ?_
      show pm_E _ _ _ 129 [(0, .ref 18), (1, .int (iI x)), (2, .int (iI w)), (3, .int (iI i)), (4, .int (iI ((a 4) (i))))] [.int (iI ((a 4) (i)))] _ _ _ _
      refine pm_i_ne (t := 186) pm_a203_129 rfl ⟨by omega, by omega⟩ (fun h_2 => ?_) (fun h_2 => ?_)
      · skip
        show pm_E _ _ _ 186 [(0, .ref 18), (1, .int (iI x)), (2, .int (iI w)), (3, .int (iI i)), (4, .int (iI ((a 4) (i))))] [] _ _ _ _
        refine pm_e_sim pm_a203_186 rfl ?_
        show pm_E _ _ _ 188 [(0, .ref 18), (1, .int (iI x)), (2, .int (iI w)), (3, .int (iI i)), (4, .int (iI ((a 4) (i))))] [.int (iI ((a 4) (i)))] _ _ _ _
        refine pm_e_sim pm_a203_188 rfl ?_
        refine pm_e_top (y := iI 1) (by decide +kernel) ?_
        show pm_E _ _ _ 189 [(0, .ref 18), (1, .int (iI x)), (2, .int (iI w)), (3, .int (iI i)), (4, .int (iI ((a 4) (i))))] [.int (iI 1), .int (iI ((a 4) (i)))] _ _ _ _
        refine pm_c_ne (t := 220) pm_a203_189 rfl ⟨by omega, by omega⟩ ⟨by omega, by omega⟩ (fun h_3 => ?_) (fun h_3 => ?_)
        · skip
          show pm_E _ _ _ 220 [(0, .ref 18), (1, .int (iI x)), (2, .int (iI w)), (3, .int (iI i)), (4, .int (iI ((a 4) (i))))] [] _ _ _ _
          refine pm_e_sim pm_a203_220 rfl ?_
          show pm_E _ _ _ 221 [(0, .ref 18), (1, .int (iI x)), (2, .int (iI w)), (3, .int (iI i)), (4, .int (iI ((a 4) (i))))] [.ref 18] _ _ _ _
          refine pm_i_get pm_a203_221 rfl (mh_get (j := 0) hA rfl) rfl ?_
          show pm_E _ _ _ 224 [(0, .ref 18), (1, .int (iI x)), (2, .int (iI w)), (3, .int (iI i)), (4, .int (iI ((a 4) (i))))] [.ref 45] _ _ _ _
          refine pm_e_sim pm_a203_224 rfl ?_
          show pm_E _ _ _ 225 [(0, .ref 18), (1, .int (iI x)), (2, .int (iI w)), (3, .int (iI i)), (4, .int (iI ((a 4) (i))))] [.int (iI w), .ref 45] _ _ _ _
          refine pm_e_sim pm_a203_225 rfl ?_
          show pm_E _ _ _ 227 [(0, .ref 18), (1, .int (iI x)), (2, .int (iI w)), (3, .int (iI i)), (4, .int (iI ((a 4) (i))))] [.int (iI ((a 4) (i))), .int (iI w), .ref 45] _ _ _ _
          refine pm_e_sim pm_a203_227 rfl ?_
          refine pm_e_top (y := iI 9) (by decide +kernel) ?_
          show pm_E _ _ _ 229 [(0, .ref 18), (1, .int (iI x)), (2, .int (iI w)), (3, .int (iI i)), (4, .int (iI ((a 4) (i))))] [.int (iI 9), .int (iI ((a 4) (i))), .int (iI w), .ref 45] _ _ _ _
          refine pm_c_le (t := 246) pm_a203_229 rfl ⟨by omega, by omega⟩ ⟨by omega, by omega⟩ (fun h_4 => ?_) (fun h_4 => ?_)
          · skip
            show pm_E _ _ _ 246 [(0, .ref 18), (1, .int (iI x)), (2, .int (iI w)), (3, .int (iI i)), (4, .int (iI ((a 4) (i))))] [.int (iI w), .ref 45] _ _ _ _
            refine pm_e_sim pm_a203_246 rfl ?_
            show pm_E _ _ _ 247 [(0, .ref 18), (1, .int (iI x)), (2, .int (iI w)), (3, .int (iI i)), (4, .int (iI ((a 4) (i))))] [.ref 18, .int (iI w), .ref 45] _ _ _ _
            refine pm_e_sim pm_a203_247 rfl ?_
            show pm_E _ _ _ 249 [(0, .ref 18), (1, .int (iI x)), (2, .int (iI w)), (3, .int (iI i)), (4, .int (iI ((a 4) (i))))] [.int (iI ((a 4) (i))), .ref 18, .int (iI w), .ref 45] _ _ _ _
            refine pm_e_sim pm_a203_249 rfl ?_
            show pm_E _ _ _ 250 [(0, .ref 18), (1, .int (iI x)), (2, .int (iI w)), (3, .int (iI i)), (4, .int (iI ((a 4) (i))))] [.int (iI x), .int (iI ((a 4) (i))), .ref 18, .int (iI w), .ref 45] _ _ _ _
            refine pm_i_callv (k := 18) (T2 := pm_mm208) pm_a203_250 rfl rfl rfl (mh_get (j := 0) hA rfl) ⟨Nat.le_of_ble_eq_true rfl, Nat.le_of_ble_eq_true rfl, rfl, by decide +kernel⟩ ?_
            show pm_E none _ _ 0 [(0, .ref 18), (1, .int (iI ((a 4) (i)))), (2, .int (iI x))] [] _ _ _ _
            refine M_typeOfLetter hA (by omega) hF (by omega) hx (fun r s2 a2 r0 r1 hF2 eK2 eK3 gs3 ga4 => ?_)
            have ga3 : ∀ j, j ≠ 17 → j ≠ 18 → j ≠ 19 → j ≠ 20 → j ≠ 21 → a2 j = a j := fun j q1 q2 q3 _ _ => ga4 j q1 q2 q3
            show pm_E _ _ _ 253 [(0, .ref 18), (1, .int (iI x)), (2, .int (iI w)), (3, .int (iI i)), (4, .int (iI ((a 4) (i))))] [.int (iI r), .int (iI w), .ref 45] _ _ _ _
            refine pm_i_ast pm_a203_253 (mh_get (j := 27) hA rfl) (by omega) (by omega) ⟨by omega, by omega⟩ (ma_27 hA _) ?_
            show pm_E _ _ _ 254 [(0, .ref 18), (1, .int (iI x)), (2, .int (iI w)), (3, .int (iI i)), (4, .int (iI ((a 4) (i))))] [] _ _ _ _
            refine pm_e_inc (y := iI (w + 1)) pm_a203_254 rfl (iI_add _ _) (by decide +kernel) rfl ?_
            show pm_E _ _ _ 257 [(0, .ref 18), (1, .int (iI x)), (2, .int (iI (w + 1))), (3, .int (iI i)), (4, .int (iI ((a 4) (i))))] [] _ _ _ _
            refine pm_e_inc (y := iI (i + (-1))) pm_a203_257 rfl (iI_add _ _) (by decide +kernel) rfl ?_
            show pm_E _ _ _ 260 [(0, .ref 18), (1, .int (iI x)), (2, .int (iI (w + 1))), (3, .int (iI (i + (-1)))), (4, .int (iI ((a 4) (i))))] [] _ _ _ _
            refine pm_e_goto pm_a203_260 rfl ?_
            show pm_E _ _ _ 115 [(0, .ref 18), (1, .int (iI x)), (2, .int (iI (w + 1))), (3, .int (iI (i + (-1)))), (4, .int (iI ((a 4) (i))))] [] _ _ _ _
            show pm_E _ _ _ 115 ([(0, .ref 18), (1, .int (iI x)), (2, .int (iI (w + 1))), (3, .int (iI (i + (-1))))] ++ [(4, .int (iI ((a 4) (i))))]) [] _ _ _ _
            refine pm_e_more [(4, .int (iI ((a 4) (i))))] (show ([0, 1, 2, 3, 4] : List Nat).Nodup from by decide) ?_
            have n27 : a2 27 = a 27 := ga3 27 (by omega) (by omega) (by omega) (by omega) (by omega)
            have n25 : a2 25 = a 25 := ga3 25 (by omega) (by omega) (by omega) (by omega) (by omega)
            have n24 : a2 24 = a 24 := ga3 24 (by omega) (by omega) (by omega) (by omega) (by omega)
            refine ih (i + -1) (w + 1) s2 _ (by omega) (by omega) (fun j h => by rw [gs3 j h]; exact fS j h) (fun j q1 q2 q3 q4 q5 q6 q7 q8 q9 => by simp [updA, q9, ga3 j q1 q2 q3 q4 q5, fA j q1 q2 q3 q4 q5 q6 q7 q8 q9]) hF2 (by omega) (by omega) (fun q z y y2 => ?_) (fun q z y y2 => ?_) (fun q z y => ?_) ?_ (by omega)
            · show 0 ≤ a2 25 q ∧ a2 25 q < _; rw [n25]; have := hlt q z y y2; omega
            · show 0 ≤ a2 24 q ∧ a2 24 q < _ ∧ a0 4 (a2 24 q) = 1; rw [n24]; exact hbi q z y y2
            · show 0 ≤ updI (a2 27) (w) _ q ∧ updI (a2 27) (w) _ q < _
              by_cases hq : q = w
              · rw [hq, updI_s]; omega
              · rw [updI_n _ _ hq, n27]; have := hpi q z (by omega); omega
            · obtain ⟨no, hno, hfo⟩ := hfo
              rw [show i + -1 + 1 = i by omega]
              exact ⟨no + 1, by omega, i + 1, fe, ke, by rw [← (tm_lf te (by omega)).1]; exact te, hfo⟩
          · skip
            show pm_E _ _ _ 232 [(0, .ref 18), (1, .int (iI x)), (2, .int (iI w)), (3, .int (iI i)), (4, .int (iI ((a 4) (i))))] [.int (iI w), .ref 45] _ _ _ _
            refine pm_e_sim pm_a203_232 rfl ?_
            show pm_E _ _ _ 233 [(0, .ref 18), (1, .int (iI x)), (2, .int (iI w)), (3, .int (iI i)), (4, .int (iI ((a 4) (i))))] [.ref 18, .int (iI w), .ref 45] _ _ _ _
            refine pm_i_get pm_a203_233 rfl (mh_get (j := 0) hA rfl) rfl ?_
            show pm_E _ _ _ 236 [(0, .ref 18), (1, .int (iI x)), (2, .int (iI w)), (3, .int (iI i)), (4, .int (iI ((a 4) (i))))] [.ref 43, .int (iI w), .ref 45] _ _ _ _
            refine pm_e_sim pm_a203_236 rfl ?_
            show pm_E _ _ _ 237 [(0, .ref 18), (1, .int (iI x)), (2, .int (iI w)), (3, .int (iI i)), (4, .int (iI ((a 4) (i))))] [.ref 18, .ref 43, .int (iI w), .ref 45] _ _ _ _
            refine pm_i_get pm_a203_237 rfl (mh_get (j := 0) hA rfl) rfl ?_
            show pm_E _ _ _ 240 [(0, .ref 18), (1, .int (iI x)), (2, .int (iI w)), (3, .int (iI i)), (4, .int (iI ((a 4) (i))))] [.ref 42, .ref 43, .int (iI w), .ref 45] _ _ _ _
            refine pm_e_sim pm_a203_240 rfl ?_
            show pm_E _ _ _ 241 [(0, .ref 18), (1, .int (iI x)), (2, .int (iI w)), (3, .int (iI i)), (4, .int (iI ((a 4) (i))))] [.int (iI i), .ref 42, .ref 43, .int (iI w), .ref 45] _ _ _ _
            have hb1 := hbi i (by omega) (by omega) (by omega)
            have hl1 := hlt (a 24 i) (by omega) (by omega) hb1.2.2
            refine pm_i_ald pm_a203_241 (mh_get (j := 24) hA rfl) (by omega) (by omega) ⟨by omega, by omega⟩ ?_
            show pm_E _ _ _ 242 [(0, .ref 18), (1, .int (iI x)), (2, .int (iI w)), (3, .int (iI i)), (4, .int (iI ((a 4) (i))))] [.int (iI ((a 24) (i))), .ref 43, .int (iI w), .ref 45] _ _ _ _
            refine pm_i_ald pm_a203_242 (mh_get (j := 25) hA rfl) (by omega) (by omega) ⟨by omega, by omega⟩ ?_
            show pm_E _ _ _ 243 [(0, .ref 18), (1, .int (iI x)), (2, .int (iI w)), (3, .int (iI i)), (4, .int (iI ((a 4) (i))))] [.int (iI ((a 25) ((a 24) (i)))), .int (iI w), .ref 45] _ _ _ _
            refine pm_e_goto pm_a203_243 rfl ?_
            show pm_E _ _ _ 253 [(0, .ref 18), (1, .int (iI x)), (2, .int (iI w)), (3, .int (iI i)), (4, .int (iI ((a 4) (i))))] [.int (iI ((a 25) ((a 24) (i)))), .int (iI w), .ref 45] _ _ _ _
            refine pm_i_ast pm_a203_253 (mh_get (j := 27) hA rfl) (by omega) (by omega) ⟨by omega, by omega⟩ (ma_27 hA _) ?_
            show pm_E _ _ _ 254 [(0, .ref 18), (1, .int (iI x)), (2, .int (iI w)), (3, .int (iI i)), (4, .int (iI ((a 4) (i))))] [] _ _ _ _
            refine pm_e_inc (y := iI (w + 1)) pm_a203_254 rfl (iI_add _ _) (by decide +kernel) rfl ?_
            show pm_E _ _ _ 257 [(0, .ref 18), (1, .int (iI x)), (2, .int (iI (w + 1))), (3, .int (iI i)), (4, .int (iI ((a 4) (i))))] [] _ _ _ _
            refine pm_e_inc (y := iI (i + (-1))) pm_a203_257 rfl (iI_add _ _) (by decide +kernel) rfl ?_
            show pm_E _ _ _ 260 [(0, .ref 18), (1, .int (iI x)), (2, .int (iI (w + 1))), (3, .int (iI (i + (-1)))), (4, .int (iI ((a 4) (i))))] [] _ _ _ _
            refine pm_e_goto pm_a203_260 rfl ?_
            show pm_E _ _ _ 115 [(0, .ref 18), (1, .int (iI x)), (2, .int (iI (w + 1))), (3, .int (iI (i + (-1)))), (4, .int (iI ((a 4) (i))))] [] _ _ _ _
            show pm_E _ _ _ 115 ([(0, .ref 18), (1, .int (iI x)), (2, .int (iI (w + 1))), (3, .int (iI (i + (-1))))] ++ [(4, .int (iI ((a 4) (i))))]) [] _ _ _ _
            refine pm_e_more [(4, .int (iI ((a 4) (i))))] (show ([0, 1, 2, 3, 4] : List Nat).Nodup from by decide) ?_
            refine ih (i + -1) (w + 1) s _ (by omega) (by omega) fS (fun j q1 q2 q3 q4 q5 q6 q7 q8 q9 => by simp [updA, q9, fA j q1 q2 q3 q4 q5 q6 q7 q8 q9]) hF (by omega) (by omega) (fun q z y y2 => ?_) (fun q z y y2 => ?_) (fun q z y => ?_) ?_ (by omega)
            · show 0 ≤ a 25 q ∧ a 25 q < _; have := hlt q z y y2; omega
            · show 0 ≤ a 24 q ∧ a 24 q < _ ∧ a0 4 (a 24 q) = 1; exact hbi q z y y2
            · show 0 ≤ updI (a 27) (w) _ q ∧ updI (a 27) (w) _ q < _
              by_cases hq : q = w
              · rw [hq, updI_s]; omega
              · rw [updI_n _ _ hq]; have := hpi q z (by omega); omega
            · obtain ⟨no, hno, hfo⟩ := hfo
              rw [show i + -1 + 1 = i by omega]
              exact ⟨no + 1, by omega, i + 1, fe, ke, by rw [← (tm_lf te (by omega)).1]; exact te, hfo⟩
        · skip
          show pm_E _ _ _ 192 [(0, .ref 18), (1, .int (iI x)), (2, .int (iI w)), (3, .int (iI i)), (4, .int (iI ((a 4) (i))))] [] _ _ _ _
          obtain ⟨n1, hn1, hf1⟩ : ∃ n1 : Nat, w = n1 + 1 ∧ fo (a0 4) n1 e (s0 6) := by
            obtain ⟨no, hno, hfo⟩ := hfo
            obtain ⟨f1, t1, _⟩ := tm_lam te (by omega)
            obtain ⟨n1, e1, hf1⟩ := fo_cut hfo t1 (by omega)
            exact ⟨n1, by omega, hf1⟩
          have hp1 := hpi (w + -1) (by omega) (by omega)
          have hl1 := hlt i (by omega) (by omega) (by omega)
          refine pm_e_inc (y := iI (w + (-1))) pm_a203_192 rfl (iI_add _ _) (by decide +kernel) rfl ?_
          show pm_E _ _ _ 195 [(0, .ref 18), (1, .int (iI x)), (2, .int (iI (w + (-1)))), (3, .int (iI i)), (4, .int (iI ((a 4) (i))))] [] _ _ _ _
          refine pm_e_sim pm_a203_195 rfl ?_
          show pm_E _ _ _ 196 [(0, .ref 18), (1, .int (iI x)), (2, .int (iI (w + (-1)))), (3, .int (iI i)), (4, .int (iI ((a 4) (i))))] [.ref 18] _ _ _ _
          refine pm_i_get pm_a203_196 rfl (mh_get (j := 0) hA rfl) rfl ?_
          show pm_E _ _ _ 199 [(0, .ref 18), (1, .int (iI x)), (2, .int (iI (w + (-1)))), (3, .int (iI i)), (4, .int (iI ((a 4) (i))))] [.ref 45] _ _ _ _
          refine pm_e_sim pm_a203_199 rfl ?_
          show pm_E _ _ _ 200 [(0, .ref 18), (1, .int (iI x)), (2, .int (iI (w + (-1)))), (3, .int (iI i)), (4, .int (iI ((a 4) (i))))] [.int (iI (w + (-1))), .ref 45] _ _ _ _
          refine pm_e_sim pm_a203_200 rfl ?_
          show pm_E _ _ _ 201 [(0, .ref 18), (1, .int (iI x)), (2, .int (iI (w + (-1)))), (3, .int (iI i)), (4, .int (iI ((a 4) (i))))] [.ref 18, .int (iI (w + (-1))), .ref 45] _ _ _ _
          refine pm_e_sim pm_a203_201 rfl ?_
          show pm_E _ _ _ 202 [(0, .ref 18), (1, .int (iI x)), (2, .int (iI (w + (-1)))), (3, .int (iI i)), (4, .int (iI ((a 4) (i))))] [.ref 18, .ref 18, .int (iI (w + (-1))), .ref 45] _ _ _ _
          refine pm_i_get pm_a203_202 rfl (mh_get (j := 0) hA rfl) rfl ?_
          show pm_E _ _ _ 205 [(0, .ref 18), (1, .int (iI x)), (2, .int (iI (w + (-1)))), (3, .int (iI i)), (4, .int (iI ((a 4) (i))))] [.ref 43, .ref 18, .int (iI (w + (-1))), .ref 45] _ _ _ _
          refine pm_e_sim pm_a203_205 rfl ?_
          show pm_E _ _ _ 206 [(0, .ref 18), (1, .int (iI x)), (2, .int (iI (w + (-1)))), (3, .int (iI i)), (4, .int (iI ((a 4) (i))))] [.int (iI i), .ref 43, .ref 18, .int (iI (w + (-1))), .ref 45] _ _ _ _
          refine pm_i_ald pm_a203_206 (mh_get (j := 25) hA rfl) (by omega) (by omega) ⟨by omega, by omega⟩ ?_
          show pm_E _ _ _ 207 [(0, .ref 18), (1, .int (iI x)), (2, .int (iI (w + (-1)))), (3, .int (iI i)), (4, .int (iI ((a 4) (i))))] [.int (iI ((a 25) (i))), .ref 18, .int (iI (w + (-1))), .ref 45] _ _ _ _
          refine pm_e_sim pm_a203_207 rfl ?_
          show pm_E _ _ _ 208 [(0, .ref 18), (1, .int (iI x)), (2, .int (iI (w + (-1)))), (3, .int (iI i)), (4, .int (iI ((a 4) (i))))] [.ref 18, .int (iI ((a 25) (i))), .ref 18, .int (iI (w + (-1))), .ref 45] _ _ _ _
          refine pm_i_get pm_a203_208 rfl (mh_get (j := 0) hA rfl) rfl ?_
          show pm_E _ _ _ 211 [(0, .ref 18), (1, .int (iI x)), (2, .int (iI (w + (-1)))), (3, .int (iI i)), (4, .int (iI ((a 4) (i))))] [.ref 45, .int (iI ((a 25) (i))), .ref 18, .int (iI (w + (-1))), .ref 45] _ _ _ _
          refine pm_e_sim pm_a203_211 rfl ?_
          show pm_E _ _ _ 212 [(0, .ref 18), (1, .int (iI x)), (2, .int (iI (w + (-1)))), (3, .int (iI i)), (4, .int (iI ((a 4) (i))))] [.int (iI (w + (-1))), .ref 45, .int (iI ((a 25) (i))), .ref 18, .int (iI (w + (-1))), .ref 45] _ _ _ _
          refine pm_i_ald pm_a203_212 (mh_get (j := 27) hA rfl) (by omega) (by omega) ⟨by omega, by omega⟩ ?_
          show pm_E _ _ _ 213 [(0, .ref 18), (1, .int (iI x)), (2, .int (iI (w + (-1)))), (3, .int (iI i)), (4, .int (iI ((a 4) (i))))] [.int (iI ((a 27) (w + (-1)))), .int (iI ((a 25) (i))), .ref 18, .int (iI (w + (-1))), .ref 45] _ _ _ _
          refine pm_i_callv (k := 18) (T2 := pm_mm205) pm_a203_213 rfl rfl rfl (mh_get (j := 0) hA rfl) ⟨Nat.le_of_ble_eq_true rfl, Nat.le_of_ble_eq_true rfl, rfl, by decide +kernel⟩ ?_
          show pm_E none _ _ 0 [(0, .ref 18), (1, .int (iI ((a 25) (i)))), (2, .int (iI ((a 27) (w + (-1)))))] [] _ _ _ _
          refine M_arrowF hA hF (by omega) ⟨by omega, by omega⟩ ⟨by omega, by omega⟩ (fun s2 a2 hF2 eK2 gs2 ga2 => ?_)
          have gs3 := gs2
          have ga3 : ∀ j, j ≠ 17 → j ≠ 18 → j ≠ 19 → j ≠ 20 → j ≠ 21 → a2 j = a j := fun j q1 q2 q3 _ _ => ga2 j q1 q2 q3
          show pm_E _ _ _ 216 [(0, .ref 18), (1, .int (iI x)), (2, .int (iI (w + (-1)))), (3, .int (iI i)), (4, .int (iI ((a 4) (i))))] [.int (iI (s 32)), .int (iI (w + (-1))), .ref 45] _ _ _ _
          refine pm_i_ast pm_a203_216 (mh_get (j := 27) hA rfl) (by omega) (by omega) ⟨by omega, by omega⟩ (ma_27 hA _) ?_
          show pm_E _ _ _ 217 [(0, .ref 18), (1, .int (iI x)), (2, .int (iI (w + (-1)))), (3, .int (iI i)), (4, .int (iI ((a 4) (i))))] [] _ _ _ _
          refine pm_e_goto pm_a203_217 rfl ?_
          show pm_E _ _ _ 254 [(0, .ref 18), (1, .int (iI x)), (2, .int (iI (w + (-1)))), (3, .int (iI i)), (4, .int (iI ((a 4) (i))))] [] _ _ _ _
          refine pm_e_inc (y := iI (w + (-1) + 1)) pm_a203_254 rfl (iI_add _ _) (by decide +kernel) rfl ?_
          show pm_E _ _ _ 257 [(0, .ref 18), (1, .int (iI x)), (2, .int (iI (w + (-1) + 1))), (3, .int (iI i)), (4, .int (iI ((a 4) (i))))] [] _ _ _ _
          refine pm_e_inc (y := iI (i + (-1))) pm_a203_257 rfl (iI_add _ _) (by decide +kernel) rfl ?_
          show pm_E _ _ _ 260 [(0, .ref 18), (1, .int (iI x)), (2, .int (iI (w + (-1) + 1))), (3, .int (iI (i + (-1)))), (4, .int (iI ((a 4) (i))))] [] _ _ _ _
          refine pm_e_goto pm_a203_260 rfl ?_
          show pm_E _ _ _ 115 [(0, .ref 18), (1, .int (iI x)), (2, .int (iI (w + (-1) + 1))), (3, .int (iI (i + (-1)))), (4, .int (iI ((a 4) (i))))] [] _ _ _ _
          show pm_E _ _ _ 115 ([(0, .ref 18), (1, .int (iI x)), (2, .int (iI (w + (-1) + 1))), (3, .int (iI (i + (-1))))] ++ [(4, .int (iI ((a 4) (i))))]) [] _ _ _ _
          refine pm_e_more [(4, .int (iI ((a 4) (i))))] (show ([0, 1, 2, 3, 4] : List Nat).Nodup from by decide) ?_
          have n27 : a2 27 = a 27 := ga3 27 (by omega) (by omega) (by omega) (by omega) (by omega)
          have n25 : a2 25 = a 25 := ga3 25 (by omega) (by omega) (by omega) (by omega) (by omega)
          have n24 : a2 24 = a 24 := ga3 24 (by omega) (by omega) (by omega) (by omega) (by omega)
          refine ih (i + -1) (w + (-1) + 1) s2 _ (by omega) (by omega) (fun j h => by rw [gs3 j h]; exact fS j h) (fun j q1 q2 q3 q4 q5 q6 q7 q8 q9 => by simp [updA, q9, ga3 j q1 q2 q3 q4 q5, fA j q1 q2 q3 q4 q5 q6 q7 q8 q9]) hF2 (by omega) (by omega) (fun q z y y2 => ?_) (fun q z y y2 => ?_) (fun q z y => ?_) ?_ (by omega)
          · show 0 ≤ a2 25 q ∧ a2 25 q < _; rw [n25]; have := hlt q z y y2; omega
          · show 0 ≤ a2 24 q ∧ a2 24 q < _ ∧ a0 4 (a2 24 q) = 1; rw [n24]; exact hbi q z y y2
          · show 0 ≤ updI (a2 27) (w + (-1)) _ q ∧ updI (a2 27) (w + (-1)) _ q < _
            by_cases hq : q = w + (-1)
            · rw [hq, updI_s]; omega
            · rw [updI_n _ _ hq, n27]; have := hpi q z (by omega); omega
          · obtain ⟨no, hno, hfo⟩ := hfo
            rw [show i + -1 + 1 = i by omega]
            exact ⟨n1 + 1, by omega, e, fe, ke, te, hf1⟩
      · skip
        show pm_E _ _ _ 132 [(0, .ref 18), (1, .int (iI x)), (2, .int (iI w)), (3, .int (iI i)), (4, .int (iI ((a 4) (i))))] [] _ _ _ _
        refine pm_e_sim pm_a203_132 rfl ?_
        show pm_E _ _ _ 133 [(0, .ref 18), (1, .int (iI x)), (2, .int (iI w)), (3, .int (iI i)), (4, .int (iI ((a 4) (i))))] [.ref 18] _ _ _ _
        refine pm_i_get pm_a203_133 rfl (mh_get (j := 0) hA rfl) rfl ?_
        show pm_E _ _ _ 136 [(0, .ref 18), (1, .int (iI x)), (2, .int (iI w)), (3, .int (iI i)), (4, .int (iI ((a 4) (i))))] [.ref 45] _ _ _ _
        refine pm_e_sim pm_a203_136 rfl ?_
        show pm_E _ _ _ 137 [(0, .ref 18), (1, .int (iI x)), (2, .int (iI w)), (3, .int (iI i)), (4, .int (iI ((a 4) (i))))] [.int (iI w), .ref 45] _ _ _ _
        refine pm_e_sim pm_a203_137 rfl ?_
        refine pm_e_top (y := iI 1) (by decide +kernel) ?_
        show pm_E _ _ _ 138 [(0, .ref 18), (1, .int (iI x)), (2, .int (iI w)), (3, .int (iI i)), (4, .int (iI ((a 4) (i))))] [.int (iI 1), .int (iI w), .ref 45] _ _ _ _
        refine pm_e_sim pm_a203_138 rfl ?_
        refine pm_e_top (y := iI (w - 1)) (iI_sub _ _) ?_
        show pm_E _ _ _ 139 [(0, .ref 18), (1, .int (iI x)), (2, .int (iI w)), (3, .int (iI i)), (4, .int (iI ((a 4) (i))))] [.int (iI (w - 1)), .ref 45] _ _ _ _
        obtain ⟨n2, hn2, hf2⟩ : ∃ n2 : Nat, w = n2 + 2 ∧ fo (a0 4) n2 e (s0 6) := by
          obtain ⟨no, hno, hfo⟩ := hfo
          obtain ⟨f1, m, t1, t2, _⟩ := tm_app te (by omega)
          have q2 := tm_lt t2
          obtain ⟨n1, e1, hf1⟩ := fo_cut hfo t1 (by omega)
          obtain ⟨n2, e2, hf2⟩ := fo_cut hf1 t2 (by omega)
          exact ⟨n2, by omega, hf2⟩
        have hp1 := hpi (w - 1) (by omega) (by omega)
        have hp2 := hpi (w - 2) (by omega) (by omega)
        refine pm_i_ald pm_a203_139 (mh_get (j := 27) hA rfl) (by omega) (by omega) ⟨by omega, by omega⟩ ?_
        show pm_E _ _ _ 140 [(0, .ref 18), (1, .int (iI x)), (2, .int (iI w)), (3, .int (iI i)), (4, .int (iI ((a 4) (i))))] [.int (iI ((a 27) (w - 1)))] _ _ _ _
        refine pm_e_sim pm_a203_140 rfl ?_
        show pm_E _ _ _ 142 [(0, .ref 18), (1, .int (iI x)), (2, .int (iI w)), (3, .int (iI i)), (4, .int (iI ((a 4) (i)))), (5, .int (iI ((a 27) (w - 1))))] [] _ _ _ _
        refine pm_e_sim pm_a203_142 rfl ?_
        show pm_E _ _ _ 143 [(0, .ref 18), (1, .int (iI x)), (2, .int (iI w)), (3, .int (iI i)), (4, .int (iI ((a 4) (i)))), (5, .int (iI ((a 27) (w - 1))))] [.ref 18] _ _ _ _
        refine pm_i_get pm_a203_143 rfl (mh_get (j := 0) hA rfl) rfl ?_
        show pm_E _ _ _ 146 [(0, .ref 18), (1, .int (iI x)), (2, .int (iI w)), (3, .int (iI i)), (4, .int (iI ((a 4) (i)))), (5, .int (iI ((a 27) (w - 1))))] [.ref 45] _ _ _ _
        refine pm_e_sim pm_a203_146 rfl ?_
        show pm_E _ _ _ 147 [(0, .ref 18), (1, .int (iI x)), (2, .int (iI w)), (3, .int (iI i)), (4, .int (iI ((a 4) (i)))), (5, .int (iI ((a 27) (w - 1))))] [.int (iI w), .ref 45] _ _ _ _
        refine pm_e_sim pm_a203_147 rfl ?_
        refine pm_e_top (y := iI 2) (by decide +kernel) ?_
        show pm_E _ _ _ 148 [(0, .ref 18), (1, .int (iI x)), (2, .int (iI w)), (3, .int (iI i)), (4, .int (iI ((a 4) (i)))), (5, .int (iI ((a 27) (w - 1))))] [.int (iI 2), .int (iI w), .ref 45] _ _ _ _
        refine pm_e_sim pm_a203_148 rfl ?_
        refine pm_e_top (y := iI (w - 2)) (iI_sub _ _) ?_
        show pm_E _ _ _ 149 [(0, .ref 18), (1, .int (iI x)), (2, .int (iI w)), (3, .int (iI i)), (4, .int (iI ((a 4) (i)))), (5, .int (iI ((a 27) (w - 1))))] [.int (iI (w - 2)), .ref 45] _ _ _ _
        refine pm_i_ald pm_a203_149 (mh_get (j := 27) hA rfl) (by omega) (by omega) ⟨by omega, by omega⟩ ?_
        show pm_E _ _ _ 150 [(0, .ref 18), (1, .int (iI x)), (2, .int (iI w)), (3, .int (iI i)), (4, .int (iI ((a 4) (i)))), (5, .int (iI ((a 27) (w - 1))))] [.int (iI ((a 27) (w - 2)))] _ _ _ _
        refine pm_e_sim pm_a203_150 rfl ?_
        show pm_E _ _ _ 152 [(0, .ref 18), (1, .int (iI x)), (2, .int (iI w)), (3, .int (iI i)), (4, .int (iI ((a 4) (i)))), (5, .int (iI ((a 27) (w - 1)))), (6, .int (iI ((a 27) (w - 2))))] [] _ _ _ _
        refine pm_e_sim pm_a203_152 rfl ?_
        show pm_E _ _ _ 153 [(0, .ref 18), (1, .int (iI x)), (2, .int (iI w)), (3, .int (iI i)), (4, .int (iI ((a 4) (i)))), (5, .int (iI ((a 27) (w - 1)))), (6, .int (iI ((a 27) (w - 2))))] [.ref 18] _ _ _ _
        refine pm_i_callv (k := 18) (T2 := pm_mm204) pm_a203_153 rfl rfl rfl (mh_get (j := 0) hA rfl) ⟨Nat.le_of_ble_eq_true rfl, Nat.le_of_ble_eq_true rfl, rfl, by decide +kernel⟩ ?_
        show pm_E none _ _ 0 [(0, .ref 18)] [] _ _ _ _
        refine M_anyF hA hF (by omega) (fun s1 a1 hF1 eK1 gs1 ga1 => ?_)
        show pm_E _ _ _ 156 [(0, .ref 18), (1, .int (iI x)), (2, .int (iI w)), (3, .int (iI i)), (4, .int (iI ((a 4) (i)))), (5, .int (iI ((a 27) (w - 1)))), (6, .int (iI ((a 27) (w - 2))))] [.int (iI (s 32))] _ _ _ _
        refine pm_e_sim pm_a203_156 rfl ?_
        show pm_E _ _ _ 158 [(0, .ref 18), (1, .int (iI x)), (2, .int (iI w)), (3, .int (iI i)), (4, .int (iI ((a 4) (i)))), (5, .int (iI ((a 27) (w - 1)))), (6, .int (iI ((a 27) (w - 2)))), (7, .int (iI (s 32)))] [] _ _ _ _
        refine pm_e_sim pm_a203_158 rfl ?_
        show pm_E _ _ _ 159 [(0, .ref 18), (1, .int (iI x)), (2, .int (iI w)), (3, .int (iI i)), (4, .int (iI ((a 4) (i)))), (5, .int (iI ((a 27) (w - 1)))), (6, .int (iI ((a 27) (w - 2)))), (7, .int (iI (s 32)))] [.ref 18] _ _ _ _
        refine pm_e_sim pm_a203_159 rfl ?_
        show pm_E _ _ _ 161 [(0, .ref 18), (1, .int (iI x)), (2, .int (iI w)), (3, .int (iI i)), (4, .int (iI ((a 4) (i)))), (5, .int (iI ((a 27) (w - 1)))), (6, .int (iI ((a 27) (w - 2)))), (7, .int (iI (s 32)))] [.int (iI ((a 27) (w - 1))), .ref 18] _ _ _ _
        refine pm_e_sim pm_a203_161 rfl ?_
        show pm_E _ _ _ 162 [(0, .ref 18), (1, .int (iI x)), (2, .int (iI w)), (3, .int (iI i)), (4, .int (iI ((a 4) (i)))), (5, .int (iI ((a 27) (w - 1)))), (6, .int (iI ((a 27) (w - 2)))), (7, .int (iI (s 32)))] [.ref 18, .int (iI ((a 27) (w - 1))), .ref 18] _ _ _ _
        refine pm_e_sim pm_a203_162 rfl ?_
        show pm_E _ _ _ 164 [(0, .ref 18), (1, .int (iI x)), (2, .int (iI w)), (3, .int (iI i)), (4, .int (iI ((a 4) (i)))), (5, .int (iI ((a 27) (w - 1)))), (6, .int (iI ((a 27) (w - 2)))), (7, .int (iI (s 32)))] [.int (iI ((a 27) (w - 2))), .ref 18, .int (iI ((a 27) (w - 1))), .ref 18] _ _ _ _
        refine pm_e_sim pm_a203_164 rfl ?_
        show pm_E _ _ _ 166 [(0, .ref 18), (1, .int (iI x)), (2, .int (iI w)), (3, .int (iI i)), (4, .int (iI ((a 4) (i)))), (5, .int (iI ((a 27) (w - 1)))), (6, .int (iI ((a 27) (w - 2)))), (7, .int (iI (s 32)))] [.int (iI (s 32)), .int (iI ((a 27) (w - 2))), .ref 18, .int (iI ((a 27) (w - 1))), .ref 18] _ _ _ _
        refine pm_i_callv (k := 18) (T2 := pm_mm205) pm_a203_166 rfl rfl rfl (mh_get (j := 0) hA rfl) ⟨Nat.le_of_ble_eq_true rfl, Nat.le_of_ble_eq_true rfl, rfl, by decide +kernel⟩ ?_
        show pm_E none _ _ 0 [(0, .ref 18), (1, .int (iI ((a 27) (w - 2)))), (2, .int (iI (s 32)))] [] _ _ _ _
        refine M_arrowF hA hF1 (by omega) ⟨by omega, by omega⟩ ⟨by omega, by omega⟩ (fun s2 a2 hF2 eK2 gs2 ga2 => ?_)
        show pm_E _ _ _ 169 [(0, .ref 18), (1, .int (iI x)), (2, .int (iI w)), (3, .int (iI i)), (4, .int (iI ((a 4) (i)))), (5, .int (iI ((a 27) (w - 1)))), (6, .int (iI ((a 27) (w - 2)))), (7, .int (iI (s 32)))] [.int (iI (s1 32)), .int (iI ((a 27) (w - 1))), .ref 18] _ _ _ _
        refine pm_i_callv (k := 18) (T2 := pm_mm206) pm_a203_169 rfl rfl rfl (mh_get (j := 0) hA rfl) ⟨Nat.le_of_ble_eq_true rfl, Nat.le_of_ble_eq_true rfl, rfl, by decide +kernel⟩ ?_
        show pm_E none _ _ 0 [(0, .ref 18), (1, .int (iI ((a 27) (w - 1)))), (2, .int (iI (s1 32)))] [] _ _ _ _
        refine M_unite hA (by omega) hF2 ⟨by omega, by omega⟩ ⟨by omega, by omega⟩ (fun a3 ga hF3 => ?_)
        have gs3 : ∀ j, j ≠ 32 → s2 j = s j := fun j h => by rw [gs2 j h, gs1 j h]
        have ga3 : ∀ j, j ≠ 17 → j ≠ 18 → j ≠ 19 → j ≠ 20 → j ≠ 21 → a3 j = a j := fun j q1 q2 q3 q4 q5 => by rw [ga j q1 q4 q5, ga2 j q1 q2 q3, ga1 j q1 q2 q3]
        show pm_E _ _ _ 172 [(0, .ref 18), (1, .int (iI x)), (2, .int (iI w)), (3, .int (iI i)), (4, .int (iI ((a 4) (i)))), (5, .int (iI ((a 27) (w - 1)))), (6, .int (iI ((a 27) (w - 2)))), (7, .int (iI (s 32)))] [] _ _ _ _
        refine pm_e_inc (y := iI (w + (-2))) pm_a203_172 rfl (iI_add _ _) (by decide +kernel) rfl ?_
        show pm_E _ _ _ 175 [(0, .ref 18), (1, .int (iI x)), (2, .int (iI (w + (-2)))), (3, .int (iI i)), (4, .int (iI ((a 4) (i)))), (5, .int (iI ((a 27) (w - 1)))), (6, .int (iI ((a 27) (w - 2)))), (7, .int (iI (s 32)))] [] _ _ _ _
        refine pm_e_sim pm_a203_175 rfl ?_
        show pm_E _ _ _ 176 [(0, .ref 18), (1, .int (iI x)), (2, .int (iI (w + (-2)))), (3, .int (iI i)), (4, .int (iI ((a 4) (i)))), (5, .int (iI ((a 27) (w - 1)))), (6, .int (iI ((a 27) (w - 2)))), (7, .int (iI (s 32)))] [.ref 18] _ _ _ _
        refine pm_i_get pm_a203_176 rfl (mh_get (j := 0) hA rfl) rfl ?_
        show pm_E _ _ _ 179 [(0, .ref 18), (1, .int (iI x)), (2, .int (iI (w + (-2)))), (3, .int (iI i)), (4, .int (iI ((a 4) (i)))), (5, .int (iI ((a 27) (w - 1)))), (6, .int (iI ((a 27) (w - 2)))), (7, .int (iI (s 32)))] [.ref 45] _ _ _ _
        refine pm_e_sim pm_a203_179 rfl ?_
        show pm_E _ _ _ 180 [(0, .ref 18), (1, .int (iI x)), (2, .int (iI (w + (-2)))), (3, .int (iI i)), (4, .int (iI ((a 4) (i)))), (5, .int (iI ((a 27) (w - 1)))), (6, .int (iI ((a 27) (w - 2)))), (7, .int (iI (s 32)))] [.int (iI (w + (-2))), .ref 45] _ _ _ _
        refine pm_e_sim pm_a203_180 rfl ?_
        show pm_E _ _ _ 182 [(0, .ref 18), (1, .int (iI x)), (2, .int (iI (w + (-2)))), (3, .int (iI i)), (4, .int (iI ((a 4) (i)))), (5, .int (iI ((a 27) (w - 1)))), (6, .int (iI ((a 27) (w - 2)))), (7, .int (iI (s 32)))] [.int (iI (s 32)), .int (iI (w + (-2))), .ref 45] _ _ _ _
        refine pm_i_ast pm_a203_182 (mh_get (j := 27) hA rfl) (by omega) (by omega) ⟨by omega, by omega⟩ (ma_27 hA _) ?_
        show pm_E _ _ _ 183 [(0, .ref 18), (1, .int (iI x)), (2, .int (iI (w + (-2)))), (3, .int (iI i)), (4, .int (iI ((a 4) (i)))), (5, .int (iI ((a 27) (w - 1)))), (6, .int (iI ((a 27) (w - 2)))), (7, .int (iI (s 32)))] [] _ _ _ _
        refine pm_e_goto pm_a203_183 rfl ?_
        show pm_E _ _ _ 254 [(0, .ref 18), (1, .int (iI x)), (2, .int (iI (w + (-2)))), (3, .int (iI i)), (4, .int (iI ((a 4) (i)))), (5, .int (iI ((a 27) (w - 1)))), (6, .int (iI ((a 27) (w - 2)))), (7, .int (iI (s 32)))] [] _ _ _ _
        refine pm_e_inc (y := iI (w + (-2) + 1)) pm_a203_254 rfl (iI_add _ _) (by decide +kernel) rfl ?_
        show pm_E _ _ _ 257 [(0, .ref 18), (1, .int (iI x)), (2, .int (iI (w + (-2) + 1))), (3, .int (iI i)), (4, .int (iI ((a 4) (i)))), (5, .int (iI ((a 27) (w - 1)))), (6, .int (iI ((a 27) (w - 2)))), (7, .int (iI (s 32)))] [] _ _ _ _
        refine pm_e_inc (y := iI (i + (-1))) pm_a203_257 rfl (iI_add _ _) (by decide +kernel) rfl ?_
        show pm_E _ _ _ 260 [(0, .ref 18), (1, .int (iI x)), (2, .int (iI (w + (-2) + 1))), (3, .int (iI (i + (-1)))), (4, .int (iI ((a 4) (i)))), (5, .int (iI ((a 27) (w - 1)))), (6, .int (iI ((a 27) (w - 2)))), (7, .int (iI (s 32)))] [] _ _ _ _
        refine pm_e_goto pm_a203_260 rfl ?_
        show pm_E _ _ _ 115 [(0, .ref 18), (1, .int (iI x)), (2, .int (iI (w + (-2) + 1))), (3, .int (iI (i + (-1)))), (4, .int (iI ((a 4) (i)))), (5, .int (iI ((a 27) (w - 1)))), (6, .int (iI ((a 27) (w - 2)))), (7, .int (iI (s 32)))] [] _ _ _ _
        show pm_E _ _ _ 115 ([(0, .ref 18), (1, .int (iI x)), (2, .int (iI (w + (-2) + 1))), (3, .int (iI (i + (-1))))] ++ [(4, .int (iI ((a 4) (i)))), (5, .int (iI ((a 27) (w - 1)))), (6, .int (iI ((a 27) (w - 2)))), (7, .int (iI (s 32)))]) [] _ _ _ _
        refine pm_e_more [(4, .int (iI ((a 4) (i)))), (5, .int (iI ((a 27) (w - 1)))), (6, .int (iI ((a 27) (w - 2)))), (7, .int (iI (s 32)))] (show ([0, 1, 2, 3, 4, 5, 6, 7] : List Nat).Nodup from by decide) ?_
        have n27 : a3 27 = a 27 := ga3 27 (by omega) (by omega) (by omega) (by omega) (by omega)
        have n25 : a3 25 = a 25 := ga3 25 (by omega) (by omega) (by omega) (by omega) (by omega)
        have n24 : a3 24 = a 24 := ga3 24 (by omega) (by omega) (by omega) (by omega) (by omega)
        refine ih (i + -1) (w + (-2) + 1) s2 _ (by omega) (by omega) (fun j h => by rw [gs3 j h]; exact fS j h) (fun j q1 q2 q3 q4 q5 q6 q7 q8 q9 => by simp [updA, q9, ga3 j q1 q2 q3 q4 q5, fA j q1 q2 q3 q4 q5 q6 q7 q8 q9]) hF3 (by omega) (by omega) (fun q z y y2 => ?_) (fun q z y y2 => ?_) (fun q z y => ?_) ?_ (by omega)
        · show 0 ≤ a3 25 q ∧ a3 25 q < _; rw [n25]; have := hlt q z y y2; omega
        · show 0 ≤ a3 24 q ∧ a3 24 q < _ ∧ a0 4 (a3 24 q) = 1; rw [n24]; exact hbi q z y y2
        · show 0 ≤ updI (a3 27) (w + (-2)) _ q ∧ updI (a3 27) (w + (-2)) _ q < _
          by_cases hq : q = w + (-2)
          · rw [hq, updI_s]; omega
          · rw [updI_n _ _ hq, n27]; have := hpi q z (by omega); omega
        · obtain ⟨no, hno, hfo⟩ := hfo
          rw [show i + -1 + 1 = i by omega]
          exact ⟨n2 + 1, by omega, e, fe, ke, te, hf2⟩
