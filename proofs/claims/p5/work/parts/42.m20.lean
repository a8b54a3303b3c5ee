/-! THE REFERENCE: has, hasWithin -/
theorem dp_in {g D : Int → Int} : ∀ {f : Nat} {k p e : Int}, dp g D f k p e → ∀ j, p ≤ j → j < e → k ≤ D j ∧ D j ≤ k + (j - p) := by
  intro f
  induction f with
  | zero => intro k p e h; exact h.elim
  | succ f ih =>
    intro k p e h j h1 h2
    rcases h with ⟨hd, ⟨h0, m, z1, z2⟩ | ⟨h0, z1⟩ | ⟨h0, z1⟩⟩
    · have l1 := dp_lt z1
      by_cases hj : j = p
      · subst hj; omega
      · by_cases hm : j < m
        · have := ih z1 j (by omega) hm; omega
        · have := ih z2 j (by omega) h2; omega
    · by_cases hj : j = p
      · subst hj; omega
      · have := ih z1 j (by omega) h2; omega
    · have : j = p := by omega
      subst this; omega
theorem tm_sub {g : Int → Int} : ∀ {f : Nat} {k p e : Int}, tm g f k p e → ∀ j, p ≤ j → j < e → ∃ f' k' e', tm g f' k' j e' ∧ e' ≤ e ∧ k ≤ k' ∧ k' ≤ k + (j - p) ∧ f' ≤ f := by
  intro f
  induction f with
  | zero => intro k p e h; exact h.elim
  | succ f ih =>
    intro k p e h j h1 h2
    by_cases hj : j = p
    · subst hj; exact ⟨f + 1, k, e, h, by omega, by omega, by omega, by omega⟩
    · rcases h with ⟨h0, m, z1, z2⟩ | ⟨h0, z1⟩ | ⟨h0, z1, z2⟩
      · have l1 := tm_lt z1; have l2 := tm_lt z2
        by_cases hm : j < m
        · obtain ⟨f', k', e', q1, q2, q3, q4, q5⟩ := ih z1 j (by omega) hm
          exact ⟨f', k', e', q1, by omega, q3, by omega, by omega⟩
        · obtain ⟨f', k', e', q1, q2, q3, q4, q5⟩ := ih z2 j (by omega) h2
          exact ⟨f', k', e', q1, by omega, q3, by omega, by omega⟩
      · obtain ⟨f', k', e', q1, q2, q3, q4, q5⟩ := ih z1 j (by omega) h2
        exact ⟨f', k', e', q1, by omega, by omega, by omega, by omega⟩
      · omega
theorem dp_one {g D D' : Int → Int} : ∀ {f f' : Nat} {k p e e' : Int}, dp g D f k p e → dp g D' f' k p e' → e = e' ∧ ∀ j, p ≤ j → j < e → D j = D' j := by
  intro f
  induction f with
  | zero => intro f' k p e e' h; exact h.elim
  | succ f ih =>
    intro f' k p e e' h h'
    cases f' with
    | zero => exact h'.elim
    | succ f' =>
      rcases h with ⟨hd, ⟨h0, m, z1, z2⟩ | ⟨h0, z1⟩ | ⟨h0, z1⟩⟩ <;> rcases h' with ⟨hd', ⟨h0', m', y1, y2⟩ | ⟨h0', y1⟩ | ⟨h0', y1⟩⟩ <;> try omega
      · obtain ⟨e1, q1⟩ := ih z1 y1
        subst e1
        obtain ⟨e2, q2⟩ := ih z2 y2
        refine ⟨e2, fun j a1 a2 => ?_⟩
        by_cases hj : j = p
        · subst hj; omega
        · by_cases hm : j < m
          · exact q1 j (by omega) hm
          · exact q2 j (by omega) a2
      · obtain ⟨e1, q1⟩ := ih z1 y1
        refine ⟨e1, fun j a1 a2 => ?_⟩
        by_cases hj : j = p
        · subst hj; omega
        · exact q1 j (by omega) a2
      · refine ⟨by omega, fun j a1 a2 => ?_⟩
        have : j = p := by omega
        subst this; omega
set_option maxHeartbeats 4000000 in
set_option maxRecDepth 100000 in
theorem M_has_l {d : Nat} {A B : List va_E} {s : Nat → Int} {vl : Int64} {a : Nat → Int → Int} {nm : Nat → Int64} {Q : Option Value → List va_E → Nat → Nat → Prop} {x e : Int} (hA : A.length = 18) (hx : 0 ≤ x) (he : e ≤ 12000) (hb : ∀ j, x ≤ j → j < e → 0 ≤ a 4 j ∧ a 4 j ≤ 100000) (hq : ∀ j, x ≤ j → j < e → 0 ≤ a 5 j ∧ a 5 j ≤ 100000) : ∀ (f : Nat) (i : Int), x ≤ i → i + f = e → (∀ j, x ≤ j → j < i → a 4 j ≠ 10 + a 5 j) → (∀ j, x ≤ j → j < e → a 4 j = 10 + a 5 j → Q (some (.int (iI 1))) (mh A s vl a nm B) 0 0) → ((∀ j, x ≤ j → j < e → a 4 j ≠ 10 + a 5 j) → Q (some (.int (iI 0))) (mh A s vl a nm B) 0 0) → pm_E none d pm_mm182 13 [(0, .ref 18), (1, .int (iI x)), (2, .int (iI e)), (3, .int (iI i))] [] (mh A s vl a nm B) 0 0 Q := by
  intro f
  induction f with
  | zero =>
    intro i h0 h1 hi k1 k0
    refine pm_e_sim pm_a182_13 rfl ?_
    show pm_E _ _ _ 14 [(0, .ref 18), (1, .int (iI x)), (2, .int (iI e)), (3, .int (iI i))] [.int (iI i)] _ _ _ _
    refine pm_e_sim pm_a182_14 rfl ?_
    show pm_E _ _ _ 15 [(0, .ref 18), (1, .int (iI x)), (2, .int (iI e)), (3, .int (iI i))] [.int (iI e), .int (iI i)] _ _ _ _
    refine pm_c_ge (t := 44) pm_a182_15 rfl ⟨by omega, by omega⟩ ⟨by omega, by omega⟩ (fun h_1 => ?_) (fun h_1 => ?_)
    · skip
      show pm_E _ _ _ 44 [(0, .ref 18), (1, .int (iI x)), (2, .int (iI e)), (3, .int (iI i))] [] _ _ _ _
      refine pm_e_sim pm_a182_44 rfl ?_
      refine pm_e_top (y := iI 0) (by decide +kernel) ?_
      show pm_E _ _ _ 45 [(0, .ref 18), (1, .int (iI x)), (2, .int (iI e)), (3, .int (iI i))] [.int (iI 0)] _ _ _ _
      refine pm_e_ret pm_a182_45 rfl rfl rfl rfl rfl rfl rfl rfl ?_
      exact k0 (fun j z y => hi j z (by omega))
    · skip
      exfalso; omega
  | succ f ih =>
    intro i h0 h1 hi k1 k0
    obtain ⟨b0, b1⟩ := hb i (by omega) (by omega)
    obtain ⟨q0, q1⟩ := hq i (by omega) (by omega)
    refine pm_e_sim pm_a182_13 rfl ?_
    show pm_E _ _ _ 14 [(0, .ref 18), (1, .int (iI x)), (2, .int (iI e)), (3, .int (iI i))] [.int (iI i)] _ _ _ _
    refine pm_e_sim pm_a182_14 rfl ?_
    show pm_E _ _ _ 15 [(0, .ref 18), (1, .int (iI x)), (2, .int (iI e)), (3, .int (iI i))] [.int (iI e), .int (iI i)] _ _ _ _
    refine pm_c_ge (t := 44) pm_a182_15 rfl ⟨by omega, by omega⟩ ⟨by omega, by omega⟩ (fun h_1 => ?_) (fun h_1 => ?_)
    · skip
      exfalso; omega
    · skip
      show pm_E _ _ _ 18 [(0, .ref 18), (1, .int (iI x)), (2, .int (iI e)), (3, .int (iI i))] [] _ _ _ _
      refine pm_e_sim pm_a182_18 rfl ?_
      show pm_E _ _ _ 19 [(0, .ref 18), (1, .int (iI x)), (2, .int (iI e)), (3, .int (iI i))] [.ref 18] _ _ _ _
      refine pm_i_get pm_a182_19 rfl (mh_get (j := 0) hA rfl) rfl ?_
      show pm_E _ _ _ 22 [(0, .ref 18), (1, .int (iI x)), (2, .int (iI e)), (3, .int (iI i))] [.ref 22] _ _ _ _
      refine pm_e_sim pm_a182_22 rfl ?_
      show pm_E _ _ _ 23 [(0, .ref 18), (1, .int (iI x)), (2, .int (iI e)), (3, .int (iI i))] [.int (iI i), .ref 22] _ _ _ _
      refine pm_i_ald pm_a182_23 (mh_get (j := 4) hA rfl) (by omega) (by omega) ⟨by omega, by omega⟩ ?_
      show pm_E _ _ _ 24 [(0, .ref 18), (1, .int (iI x)), (2, .int (iI e)), (3, .int (iI i))] [.int (iI ((a 4) (i)))] _ _ _ _
      refine pm_e_sim pm_a182_24 rfl ?_
      refine pm_e_top (y := iI 10) (by decide +kernel) ?_
      show pm_E _ _ _ 26 [(0, .ref 18), (1, .int (iI x)), (2, .int (iI e)), (3, .int (iI i))] [.int (iI 10), .int (iI ((a 4) (i)))] _ _ _ _
      refine pm_e_sim pm_a182_26 rfl ?_
      show pm_E _ _ _ 27 [(0, .ref 18), (1, .int (iI x)), (2, .int (iI e)), (3, .int (iI i))] [.ref 18, .int (iI 10), .int (iI ((a 4) (i)))] _ _ _ _
      refine pm_i_get pm_a182_27 rfl (mh_get (j := 0) hA rfl) rfl ?_
      show pm_E _ _ _ 30 [(0, .ref 18), (1, .int (iI x)), (2, .int (iI e)), (3, .int (iI i))] [.ref 23, .int (iI 10), .int (iI ((a 4) (i)))] _ _ _ _
      refine pm_e_sim pm_a182_30 rfl ?_
      show pm_E _ _ _ 31 [(0, .ref 18), (1, .int (iI x)), (2, .int (iI e)), (3, .int (iI i))] [.int (iI i), .ref 23, .int (iI 10), .int (iI ((a 4) (i)))] _ _ _ _
      refine pm_i_ald pm_a182_31 (mh_get (j := 5) hA rfl) (by omega) (by omega) ⟨by omega, by omega⟩ ?_
      show pm_E _ _ _ 32 [(0, .ref 18), (1, .int (iI x)), (2, .int (iI e)), (3, .int (iI i))] [.int (iI ((a 5) (i))), .int (iI 10), .int (iI ((a 4) (i)))] _ _ _ _
      refine pm_e_sim pm_a182_32 rfl ?_
      refine pm_e_top (y := iI (10 + ((a 5) (i)))) (iI_add _ _) ?_
      show pm_E _ _ _ 33 [(0, .ref 18), (1, .int (iI x)), (2, .int (iI e)), (3, .int (iI i))] [.int (iI (10 + ((a 5) (i)))), .int (iI ((a 4) (i)))] _ _ _ _
      refine pm_c_ne (t := 38) pm_a182_33 rfl ⟨by omega, by omega⟩ ⟨by omega, by omega⟩ (fun h_2 => ?_) (fun h_2 => ?_)
      · skip
        show pm_E _ _ _ 38 [(0, .ref 18), (1, .int (iI x)), (2, .int (iI e)), (3, .int (iI i))] [] _ _ _ _
        refine pm_e_inc (y := iI (i + 1)) pm_a182_38 rfl (iI_add _ _) (by decide +kernel) rfl ?_
        show pm_E _ _ _ 41 [(0, .ref 18), (1, .int (iI x)), (2, .int (iI e)), (3, .int (iI (i + 1)))] [] _ _ _ _
        refine pm_e_goto pm_a182_41 rfl ?_
        show pm_E _ _ _ 13 [(0, .ref 18), (1, .int (iI x)), (2, .int (iI e)), (3, .int (iI (i + 1)))] [] _ _ _ _
        exact ih (i + 1) (by omega) (by omega) (fun j z y => if hj : j = i then (by subst hj; omega) else hi j z (by omega)) k1 k0
      · skip
        show pm_E _ _ _ 36 [(0, .ref 18), (1, .int (iI x)), (2, .int (iI e)), (3, .int (iI i))] [] _ _ _ _
        refine pm_e_sim pm_a182_36 rfl ?_
        refine pm_e_top (y := iI 1) (by decide +kernel) ?_
        show pm_E _ _ _ 37 [(0, .ref 18), (1, .int (iI x)), (2, .int (iI e)), (3, .int (iI i))] [.int (iI 1)] _ _ _ _
        refine pm_e_ret pm_a182_37 rfl rfl rfl rfl rfl rfl rfl rfl ?_
        exact k1 i (by omega) (by omega) (by omega)
set_option maxHeartbeats 4000000 in
set_option maxRecDepth 100000 in
theorem M_has {d : Nat} {A B : List va_E} {s : Nat → Int} {vl : Int64} {a : Nat → Int → Int} {nm : Nat → Int64} {Q : Option Value → List va_E → Nat → Nat → Prop} {x e k0 : Int} {f : Nat} (hA : A.length = 18) (hr : ∀ j, in32 (a 4 j)) (ht : tm (a 4) f k0 x e) (hx : 0 ≤ x) (he : e ≤ 11900) (hb : ∀ j, x ≤ j → j < e → 0 ≤ a 4 j ∧ a 4 j ≤ 100000) (k : ∀ (r : Int) P D, (r = 0 ∨ r = 1) → (r = 1 ↔ ∃ j, x ≤ j ∧ j < e ∧ a 4 j = 10 + D j) → (∀ j, j < x ∨ e ≤ j → D j = a 5 j) → dp (a 4) D f 0 x e → Q (some (.int (iI r))) (mh A s vl (updA (updA a 5 D) 6 P) nm B) 0 0) : pm_E none (d + 1) pm_mm182 0 [(0, .ref 18), (1, .int (iI x))] [] (mh A s vl a nm B) 0 0 Q := by
  have hlt := tm_lt ht
  refine pm_e_sim pm_a182_0 rfl ?_
  show pm_E _ _ _ 1 [(0, .ref 18), (1, .int (iI x))] [.ref 18] _ _ _ _
  refine pm_e_sim pm_a182_1 rfl ?_
  show pm_E _ _ _ 2 [(0, .ref 18), (1, .int (iI x))] [.int (iI x), .ref 18] _ _ _ _
  refine pm_i_callv (k := 18) (T2 := pm_mm170) pm_a182_2 rfl rfl rfl (mh_get (j := 0) hA rfl) ⟨Nat.le_of_ble_eq_true rfl, Nat.le_of_ble_eq_true rfl, rfl, by decide +kernel⟩ ?_
  show pm_E none _ _ 0 [(0, .ref 18), (1, .int (iI x))] [] _ _ _ _
  refine M_endT hA hr ht (by omega) (by omega) ?_
  show pm_E _ _ _ 5 [(0, .ref 18), (1, .int (iI x))] [.int (iI e)] _ _ _ _
  refine pm_e_sim pm_a182_5 rfl ?_
  show pm_E _ _ _ 6 [(0, .ref 18), (1, .int (iI x)), (2, .int (iI e))] [] _ _ _ _
  refine pm_e_sim pm_a182_6 rfl ?_
  show pm_E _ _ _ 7 [(0, .ref 18), (1, .int (iI x)), (2, .int (iI e))] [.ref 18] _ _ _ _
  refine pm_e_sim pm_a182_7 rfl ?_
  show pm_E _ _ _ 8 [(0, .ref 18), (1, .int (iI x)), (2, .int (iI e))] [.int (iI x), .ref 18] _ _ _ _
  refine pm_i_callv (k := 18) (T2 := pm_mm171) pm_a182_8 rfl rfl rfl (mh_get (j := 0) hA rfl) ⟨Nat.le_of_ble_eq_true rfl, Nat.le_of_ble_eq_true rfl, rfl, by decide +kernel⟩ ?_
  show pm_E none _ _ 0 [(0, .ref 18), (1, .int (iI x))] [] _ _ _ _
  refine M_depT hA hr ht (by omega) (by omega) (fun P D hD dD => ?_)
  show pm_E _ _ _ 11 [(0, .ref 18), (1, .int (iI x)), (2, .int (iI e))] [] _ _ _ _
  refine pm_e_sim pm_a182_11 rfl ?_
  show pm_E _ _ _ 12 [(0, .ref 18), (1, .int (iI x)), (2, .int (iI e))] [.int (iI x)] _ _ _ _
  refine pm_e_sim pm_a182_12 rfl ?_
  show pm_E _ _ _ 13 [(0, .ref 18), (1, .int (iI x)), (2, .int (iI e)), (3, .int (iI x))] [] _ _ _ _
  have hdi := dp_in dD
  exact M_has_l (a := updA (updA a 5 D) 6 P) hA (by omega) (by omega) hb (fun j z y => by have := hdi j z y; show 0 ≤ D j ∧ D j ≤ 100000; omega) (e - x).toNat x (by omega) (by omega) (fun j z y => by omega) (fun j z y q => k 1 P D (Or.inr rfl) ⟨fun _ => ⟨j, z, y, q⟩, fun _ => rfl⟩ hD dD) (fun q => k 0 P D (Or.inl rfl) ⟨fun z => by omega, fun ⟨j, z, y, q2⟩ => absurd q2 (q j z y)⟩ hD dD)
set_option maxHeartbeats 4000000 in
set_option maxRecDepth 100000 in
theorem M_hasWithin_l {d : Nat} {A B : List va_E} {s : Nat → Int} {vl : Int64} {a : Nat → Int → Int} {nm : Nat → Int64} {Q : Option Value → List va_E → Nat → Nat → Prop} {x e : Int} (hA : A.length = 18) (hr : ∀ j, in32 (a 4 j)) (hx : 0 ≤ x) (he : e ≤ 11900) : ∀ (f : Nat) (i : Int), x < i → i + f = e → (∀ j, x < j → j < i → rdx (a 4) j = 0) → (∀ j, x < j → j < e → rdx (a 4) j = 1 → Q (some (.int (iI 1))) (mh A s vl a nm B) 0 0) → ((∀ j, x < j → j < e → rdx (a 4) j = 0) → Q (some (.int (iI 0))) (mh A s vl a nm B) 0 0) → pm_E none (d + 1) pm_mm183 10 [(0, .ref 18), (1, .int (iI x)), (2, .int (iI e)), (3, .int (iI i))] [] (mh A s vl a nm B) 0 0 Q := by
  intro f
  induction f with
  | zero =>
    intro i h0 h1 hi k1 k0
    refine pm_e_sim pm_a183_10 rfl ?_
    show pm_E _ _ _ 11 [(0, .ref 18), (1, .int (iI x)), (2, .int (iI e)), (3, .int (iI i))] [.int (iI i)] _ _ _ _
    refine pm_e_sim pm_a183_11 rfl ?_
    show pm_E _ _ _ 12 [(0, .ref 18), (1, .int (iI x)), (2, .int (iI e)), (3, .int (iI i))] [.int (iI e), .int (iI i)] _ _ _ _
    refine pm_c_ge (t := 31) pm_a183_12 rfl ⟨by omega, by omega⟩ ⟨by omega, by omega⟩ (fun h_1 => ?_) (fun h_1 => ?_)
    · skip
      show pm_E _ _ _ 31 [(0, .ref 18), (1, .int (iI x)), (2, .int (iI e)), (3, .int (iI i))] [] _ _ _ _
      refine pm_e_sim pm_a183_31 rfl ?_
      refine pm_e_top (y := iI 0) (by decide +kernel) ?_
      show pm_E _ _ _ 32 [(0, .ref 18), (1, .int (iI x)), (2, .int (iI e)), (3, .int (iI i))] [.int (iI 0)] _ _ _ _
      refine pm_e_ret pm_a183_32 rfl rfl rfl rfl rfl rfl rfl rfl ?_
      exact k0 (fun j z y => hi j z (by omega))
    · skip
      exfalso; omega
  | succ f ih =>
    intro i h0 h1 hi k1 k0
    refine pm_e_sim pm_a183_10 rfl ?_
    show pm_E _ _ _ 11 [(0, .ref 18), (1, .int (iI x)), (2, .int (iI e)), (3, .int (iI i))] [.int (iI i)] _ _ _ _
    refine pm_e_sim pm_a183_11 rfl ?_
    show pm_E _ _ _ 12 [(0, .ref 18), (1, .int (iI x)), (2, .int (iI e)), (3, .int (iI i))] [.int (iI e), .int (iI i)] _ _ _ _
    refine pm_c_ge (t := 31) pm_a183_12 rfl ⟨by omega, by omega⟩ ⟨by omega, by omega⟩ (fun h_1 => ?_) (fun h_1 => ?_)
    · skip
      exfalso; omega
    · skip
      show pm_E _ _ _ 15 [(0, .ref 18), (1, .int (iI x)), (2, .int (iI e)), (3, .int (iI i))] [] _ _ _ _
      refine pm_e_sim pm_a183_15 rfl ?_
      show pm_E _ _ _ 16 [(0, .ref 18), (1, .int (iI x)), (2, .int (iI e)), (3, .int (iI i))] [.ref 18] _ _ _ _
      refine pm_e_sim pm_a183_16 rfl ?_
      show pm_E _ _ _ 17 [(0, .ref 18), (1, .int (iI x)), (2, .int (iI e)), (3, .int (iI i))] [.int (iI i), .ref 18] _ _ _ _
      refine pm_i_callv (k := 18) (T2 := pm_mm180) pm_a183_17 rfl rfl rfl (mh_get (j := 0) hA rfl) ⟨Nat.le_of_ble_eq_true rfl, Nat.le_of_ble_eq_true rfl, rfl, by decide +kernel⟩ ?_
      show pm_E none _ _ 0 [(0, .ref 18), (1, .int (iI i))] [] _ _ _ _
      refine M_isRedex hA hr (by omega) (by omega) (fun r1 e1 => ?_)
      have b1 := rdx_in (a 4) (i)
      rw [e1] at b1
      show pm_E _ _ _ 20 [(0, .ref 18), (1, .int (iI x)), (2, .int (iI e)), (3, .int (iI i))] [.int (iI r1)] _ _ _ _
      refine pm_i_eq (t := 25) pm_a183_20 rfl ⟨by omega, by omega⟩ (fun h_2 => ?_) (fun h_2 => ?_)
      · skip
        show pm_E _ _ _ 25 [(0, .ref 18), (1, .int (iI x)), (2, .int (iI e)), (3, .int (iI i))] [] _ _ _ _
        refine pm_e_inc (y := iI (i + 1)) pm_a183_25 rfl (iI_add _ _) (by decide +kernel) rfl ?_
        show pm_E _ _ _ 28 [(0, .ref 18), (1, .int (iI x)), (2, .int (iI e)), (3, .int (iI (i + 1)))] [] _ _ _ _
        refine pm_e_goto pm_a183_28 rfl ?_
        show pm_E _ _ _ 10 [(0, .ref 18), (1, .int (iI x)), (2, .int (iI e)), (3, .int (iI (i + 1)))] [] _ _ _ _
        exact ih (i + 1) (by omega) (by omega) (fun j z y => if hj : j = i then (by subst hj; omega) else hi j z (by omega)) k1 k0
      · skip
        show pm_E _ _ _ 23 [(0, .ref 18), (1, .int (iI x)), (2, .int (iI e)), (3, .int (iI i))] [] _ _ _ _
        refine pm_e_sim pm_a183_23 rfl ?_
        refine pm_e_top (y := iI 1) (by decide +kernel) ?_
        show pm_E _ _ _ 24 [(0, .ref 18), (1, .int (iI x)), (2, .int (iI e)), (3, .int (iI i))] [.int (iI 1)] _ _ _ _
        refine pm_e_ret pm_a183_24 rfl rfl rfl rfl rfl rfl rfl rfl ?_
        exact k1 i (by omega) (by omega) (by omega)
set_option maxHeartbeats 4000000 in
set_option maxRecDepth 100000 in
theorem M_hasWithin {d : Nat} {A B : List va_E} {s : Nat → Int} {vl : Int64} {a : Nat → Int → Int} {nm : Nat → Int64} {Q : Option Value → List va_E → Nat → Nat → Prop} {x e kk : Int} {f : Nat} (hA : A.length = 18) (hr : ∀ j, in32 (a 4 j)) (ht : tm (a 4) f kk x e) (hx : 0 ≤ x) (he : e ≤ 11900) (k1 : (∃ j, x < j ∧ j < e ∧ rdx (a 4) j = 1) → Q (some (.int (iI 1))) (mh A s vl a nm B) 0 0) (k0 : (∀ j, x < j → j < e → rdx (a 4) j = 0) → Q (some (.int (iI 0))) (mh A s vl a nm B) 0 0) : pm_E none (d + 1) pm_mm183 0 [(0, .ref 18), (1, .int (iI x))] [] (mh A s vl a nm B) 0 0 Q := by
  have hlt := tm_lt ht
  refine pm_e_sim pm_a183_0 rfl ?_
  show pm_E _ _ _ 1 [(0, .ref 18), (1, .int (iI x))] [.ref 18] _ _ _ _
  refine pm_e_sim pm_a183_1 rfl ?_
  show pm_E _ _ _ 2 [(0, .ref 18), (1, .int (iI x))] [.int (iI x), .ref 18] _ _ _ _
  refine pm_i_callv (k := 18) (T2 := pm_mm170) pm_a183_2 rfl rfl rfl (mh_get (j := 0) hA rfl) ⟨Nat.le_of_ble_eq_true rfl, Nat.le_of_ble_eq_true rfl, rfl, by decide +kernel⟩ ?_
  show pm_E none _ _ 0 [(0, .ref 18), (1, .int (iI x))] [] _ _ _ _
  refine M_endT hA hr ht (by omega) (by omega) ?_
  show pm_E _ _ _ 5 [(0, .ref 18), (1, .int (iI x))] [.int (iI e)] _ _ _ _
  refine pm_e_sim pm_a183_5 rfl ?_
  show pm_E _ _ _ 6 [(0, .ref 18), (1, .int (iI x)), (2, .int (iI e))] [] _ _ _ _
  refine pm_e_sim pm_a183_6 rfl ?_
  show pm_E _ _ _ 7 [(0, .ref 18), (1, .int (iI x)), (2, .int (iI e))] [.int (iI x)] _ _ _ _
  refine pm_e_sim pm_a183_7 rfl ?_
  refine pm_e_top (y := iI 1) (by decide +kernel) ?_
  show pm_E _ _ _ 8 [(0, .ref 18), (1, .int (iI x)), (2, .int (iI e))] [.int (iI 1), .int (iI x)] _ _ _ _
  refine pm_e_sim pm_a183_8 rfl ?_
  refine pm_e_top (y := iI (x + 1)) (iI_add _ _) ?_
  show pm_E _ _ _ 9 [(0, .ref 18), (1, .int (iI x)), (2, .int (iI e))] [.int (iI (x + 1))] _ _ _ _
  refine pm_e_sim pm_a183_9 rfl ?_
  show pm_E _ _ _ 10 [(0, .ref 18), (1, .int (iI x)), (2, .int (iI e)), (3, .int (iI (x + 1)))] [] _ _ _ _
  exact M_hasWithin_l hA hr (by omega) (by omega) (e - (x + 1)).toNat (x + 1) (by omega) (by omega) (fun j z y => by omega) (fun j z y q => k1 ⟨j, z, y, q⟩) k0
