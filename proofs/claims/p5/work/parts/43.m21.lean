/-! THE REFERENCE: isThin -/
/-- a lambda of an apply whose second is its own variable, which is not in the first -/
def thn (g : Int → Int) (x : Int) : Prop := g x = 1 ∧ g (x + 1) = 0 ∧ ∃ (m : Int) (f : Nat) (k : Int) (D : Int → Int), tm g f k (x + 2) m ∧ dp g D f 0 (x + 2) m ∧ g m = 10 ∧ ∀ j, x + 2 ≤ j → j < m → g j ≠ 10 + D j
theorem tm_thin {g : Int → Int} {f : Nat} {k x e : Int} (h : tm g f k x e) (h1 : g x = 1) (h2 : g (x + 1) = 0) : ∃ f' k' m, tm g f' k' (x + 2) m ∧ tm g f' k' m e ∧ f' ≤ f := by
  cases f with
  | zero => exact h.elim
  | succ f =>
    rcases h with ⟨h0, _⟩ | ⟨_, h3⟩ | ⟨h0, _⟩
    · omega
    · cases f with
      | zero => exact h3.elim
      | succ f =>
        rcases h3 with ⟨_, m, h4, h5⟩ | ⟨h0, _⟩ | ⟨h0, _⟩
        · exact ⟨f, k + 1, m, by rw [show x + 2 = x + 1 + 1 by omega]; exact h4, h5, by omega⟩
        · omega
        · omega
    · omega
theorem pm_q_heap {Q : Option Value → List va_E → Nat → Nat → Prop} {v : Option Value} {h h' : List va_E} (e : h = h') (k : Q v h' 0 0) : Q v h 0 0 := by rw [e]; exact k
set_option maxHeartbeats 4000000 in
set_option maxRecDepth 100000 in
theorem M_isThin {d : Nat} {A B : List va_E} {s : Nat → Int} {vl : Int64} {a : Nat → Int → Int} {nm : Nat → Int64} {Q : Option Value → List va_E → Nat → Nat → Prop} {x e kk : Int} {f : Nat} (hA : A.length = 18) (hr : ∀ j, in32 (a 4 j)) (ht : tm (a 4) f kk x e) (hx : 0 ≤ x) (he : e ≤ 11900) (hb : ∀ j, x ≤ j → j < e → 0 ≤ a 4 j ∧ a 4 j ≤ 100000) (k : ∀ (r : Int) P D, (r = 0 ∨ r = 1) → (r = 1 ↔ thn (a 4) x) → (∀ j, j < x ∨ e ≤ j → D j = a 5 j) → Q (some (.int (iI r))) (mh A s vl (updA (updA a 5 D) 6 P) nm B) 0 0) : pm_E none (d + 2) pm_mm181 0 [(0, .ref 18), (1, .int (iI x))] [] (mh A s vl a nm B) 0 0 Q := by
  have hlt := tm_lt ht
  have bx := hb x (by omega) (by omega)
  obtain ⟨by0, by1⟩ := hr (x + 1)
  refine pm_e_sim pm_a181_0 rfl ?_
  show pm_E _ _ _ 1 [(0, .ref 18), (1, .int (iI x))] [.ref 18] _ _ _ _
  refine pm_i_get pm_a181_1 rfl (mh_get (j := 0) hA rfl) rfl ?_
  show pm_E _ _ _ 4 [(0, .ref 18), (1, .int (iI x))] [.ref 22] _ _ _ _
  refine pm_e_sim pm_a181_4 rfl ?_
  show pm_E _ _ _ 5 [(0, .ref 18), (1, .int (iI x))] [.int (iI x), .ref 22] _ _ _ _
  refine pm_i_ald pm_a181_5 (mh_get (j := 4) hA rfl) (by omega) (by omega) ⟨by omega, by omega⟩ ?_
  show pm_E _ _ _ 6 [(0, .ref 18), (1, .int (iI x))] [.int (iI ((a 4) (x)))] _ _ _ _
  refine pm_e_sim pm_a181_6 rfl ?_
  refine pm_e_top (y := iI 1) (by decide +kernel) ?_
  show pm_E _ _ _ 7 [(0, .ref 18), (1, .int (iI x))] [.int (iI 1), .int (iI ((a 4) (x)))] _ _ _ _
  refine pm_c_ne (t := 21) pm_a181_7 rfl ⟨by omega, by omega⟩ ⟨by omega, by omega⟩ (fun h_1 => ?_) (fun h_1 => ?_)
  · skip
    show pm_E _ _ _ 21 [(0, .ref 18), (1, .int (iI x))] [] _ _ _ _
    refine pm_e_sim pm_a181_21 rfl ?_
    refine pm_e_top (y := iI 0) (by decide +kernel) ?_
    show pm_E _ _ _ 22 [(0, .ref 18), (1, .int (iI x))] [.int (iI 0)] _ _ _ _
    refine pm_e_ret pm_a181_22 rfl rfl rfl rfl rfl rfl rfl rfl ?_
    refine pm_q_heap (show mh A s vl a nm B = mh A s vl (updA (updA a 5 (a 5)) 6 (a 6)) nm B from by rw [updA_self, updA_self]) ?_
    refine k 0 (a 6) (a 5) (Or.inl rfl) ⟨fun z => by omega, ?_⟩ (fun j _ => rfl)
    rintro ⟨z1, z2, m2, f2, k2, D2, t3, d3, q3, q4⟩
    first | omega | (have := tm_one t1 t3; subst this; omega)
  · skip
    show pm_E _ _ _ 10 [(0, .ref 18), (1, .int (iI x))] [] _ _ _ _
    refine pm_e_sim pm_a181_10 rfl ?_
    show pm_E _ _ _ 11 [(0, .ref 18), (1, .int (iI x))] [.ref 18] _ _ _ _
    refine pm_i_get pm_a181_11 rfl (mh_get (j := 0) hA rfl) rfl ?_
    show pm_E _ _ _ 14 [(0, .ref 18), (1, .int (iI x))] [.ref 22] _ _ _ _
    refine pm_e_sim pm_a181_14 rfl ?_
    show pm_E _ _ _ 15 [(0, .ref 18), (1, .int (iI x))] [.int (iI x), .ref 22] _ _ _ _
    refine pm_e_sim pm_a181_15 rfl ?_
    refine pm_e_top (y := iI 1) (by decide +kernel) ?_
    show pm_E _ _ _ 16 [(0, .ref 18), (1, .int (iI x))] [.int (iI 1), .int (iI x), .ref 22] _ _ _ _
    refine pm_e_sim pm_a181_16 rfl ?_
    refine pm_e_top (y := iI (x + 1)) (iI_add _ _) ?_
    show pm_E _ _ _ 17 [(0, .ref 18), (1, .int (iI x))] [.int (iI (x + 1)), .ref 22] _ _ _ _
    refine pm_i_ald pm_a181_17 (mh_get (j := 4) hA rfl) (by omega) (by omega) ⟨by omega, by omega⟩ ?_
    show pm_E _ _ _ 18 [(0, .ref 18), (1, .int (iI x))] [.int (iI ((a 4) (x + 1)))] _ _ _ _
    refine pm_i_eq (t := 23) pm_a181_18 rfl ⟨by omega, by omega⟩ (fun h_2 => ?_) (fun h_2 => ?_)
    · skip
      show pm_E _ _ _ 23 [(0, .ref 18), (1, .int (iI x))] [] _ _ _ _
      refine pm_e_sim pm_a181_23 rfl ?_
      show pm_E _ _ _ 24 [(0, .ref 18), (1, .int (iI x))] [.ref 18] _ _ _ _
      refine pm_i_get pm_a181_24 rfl (mh_get (j := 0) hA rfl) rfl ?_
      show pm_E _ _ _ 27 [(0, .ref 18), (1, .int (iI x))] [.ref 22] _ _ _ _
      refine pm_e_sim pm_a181_27 rfl ?_
      show pm_E _ _ _ 28 [(0, .ref 18), (1, .int (iI x))] [.ref 18, .ref 22] _ _ _ _
      refine pm_e_sim pm_a181_28 rfl ?_
      show pm_E _ _ _ 29 [(0, .ref 18), (1, .int (iI x))] [.int (iI x), .ref 18, .ref 22] _ _ _ _
      refine pm_e_sim pm_a181_29 rfl ?_
      refine pm_e_top (y := iI 2) (by decide +kernel) ?_
      show pm_E _ _ _ 30 [(0, .ref 18), (1, .int (iI x))] [.int (iI 2), .int (iI x), .ref 18, .ref 22] _ _ _ _
      refine pm_e_sim pm_a181_30 rfl ?_
      refine pm_e_top (y := iI (x + 2)) (iI_add _ _) ?_
      show pm_E _ _ _ 31 [(0, .ref 18), (1, .int (iI x))] [.int (iI (x + 2)), .ref 18, .ref 22] _ _ _ _
      refine pm_i_callv (k := 18) (T2 := pm_mm170) pm_a181_31 rfl rfl rfl (mh_get (j := 0) hA rfl) ⟨Nat.le_of_ble_eq_true rfl, Nat.le_of_ble_eq_true rfl, rfl, by decide +kernel⟩ ?_
      obtain ⟨f1, kk1, m, t1, t2, _⟩ := tm_thin ht (by omega) (by omega)
      have l1 := tm_lt t1
      have l2 := tm_lt t2
      have bm := hb m (by omega) (by omega)
      show pm_E none _ _ 0 [(0, .ref 18), (1, .int (iI (x + 2)))] [] _ _ _ _
      refine M_endT hA hr t1 (by omega) (by omega) ?_
      show pm_E _ _ _ 34 [(0, .ref 18), (1, .int (iI x))] [.int (iI m), .ref 22] _ _ _ _
      refine pm_i_ald pm_a181_34 (mh_get (j := 4) hA rfl) (by omega) (by omega) ⟨by omega, by omega⟩ ?_
      show pm_E _ _ _ 35 [(0, .ref 18), (1, .int (iI x))] [.int (iI ((a 4) (m)))] _ _ _ _
      refine pm_e_sim pm_a181_35 rfl ?_
      refine pm_e_top (y := iI 10) (by decide +kernel) ?_
      show pm_E _ _ _ 37 [(0, .ref 18), (1, .int (iI x))] [.int (iI 10), .int (iI ((a 4) (m)))] _ _ _ _
      refine pm_c_ne (t := 54) pm_a181_37 rfl ⟨by omega, by omega⟩ ⟨by omega, by omega⟩ (fun h_3 => ?_) (fun h_3 => ?_)
      · skip
        show pm_E _ _ _ 54 [(0, .ref 18), (1, .int (iI x))] [] _ _ _ _
        refine pm_e_sim pm_a181_54 rfl ?_
        refine pm_e_top (y := iI 0) (by decide +kernel) ?_
        show pm_E _ _ _ 55 [(0, .ref 18), (1, .int (iI x))] [.int (iI 0)] _ _ _ _
        refine pm_e_ret pm_a181_55 rfl rfl rfl rfl rfl rfl rfl rfl ?_
        refine pm_q_heap (show mh A s vl a nm B = mh A s vl (updA (updA a 5 (a 5)) 6 (a 6)) nm B from by rw [updA_self, updA_self]) ?_
        refine k 0 (a 6) (a 5) (Or.inl rfl) ⟨fun z => by omega, ?_⟩ (fun j _ => rfl)
        rintro ⟨z1, z2, m2, f2, k2, D2, t3, d3, q3, q4⟩
        first | omega | (have := tm_one t1 t3; subst this; omega)
      · skip
        show pm_E _ _ _ 40 [(0, .ref 18), (1, .int (iI x))] [] _ _ _ _
        refine pm_e_sim pm_a181_40 rfl ?_
        show pm_E _ _ _ 41 [(0, .ref 18), (1, .int (iI x))] [.ref 18] _ _ _ _
        refine pm_e_sim pm_a181_41 rfl ?_
        show pm_E _ _ _ 42 [(0, .ref 18), (1, .int (iI x))] [.int (iI x), .ref 18] _ _ _ _
        refine pm_e_sim pm_a181_42 rfl ?_
        refine pm_e_top (y := iI 2) (by decide +kernel) ?_
        show pm_E _ _ _ 43 [(0, .ref 18), (1, .int (iI x))] [.int (iI 2), .int (iI x), .ref 18] _ _ _ _
        refine pm_e_sim pm_a181_43 rfl ?_
        refine pm_e_top (y := iI (x + 2)) (iI_add _ _) ?_
        show pm_E _ _ _ 44 [(0, .ref 18), (1, .int (iI x))] [.int (iI (x + 2)), .ref 18] _ _ _ _
        refine pm_i_callv (k := 18) (T2 := pm_mm182) pm_a181_44 rfl rfl rfl (mh_get (j := 0) hA rfl) ⟨Nat.le_of_ble_eq_true rfl, Nat.le_of_ble_eq_true rfl, rfl, by decide +kernel⟩ ?_
        show pm_E none _ _ 0 [(0, .ref 18), (1, .int (iI (x + 2)))] [] _ _ _ _
        refine M_has hA hr t1 (by omega) (by omega) (fun j z y => hb j (by omega) (by omega)) (fun r P D r01 rif hD dD => ?_)
        show pm_E _ _ _ 47 [(0, .ref 18), (1, .int (iI x))] [.int (iI r)] _ _ _ _
        refine pm_i_ne (t := 54) pm_a181_47 rfl ⟨by omega, by omega⟩ (fun h_4 => ?_) (fun h_4 => ?_)
        · skip
          show pm_E _ _ _ 54 [(0, .ref 18), (1, .int (iI x))] [] _ _ _ _
          refine pm_e_sim pm_a181_54 rfl ?_
          refine pm_e_top (y := iI 0) (by decide +kernel) ?_
          show pm_E _ _ _ 55 [(0, .ref 18), (1, .int (iI x))] [.int (iI 0)] _ _ _ _
          refine pm_e_ret pm_a181_55 rfl rfl rfl rfl rfl rfl rfl rfl ?_
          refine k 0 P D (Or.inl rfl) ⟨fun z => by omega, ?_⟩ (fun j z => hD j (by omega))
          rintro ⟨_, _, m2, f2, k2, D2, t3, d3, q3, q4⟩
          obtain ⟨j, z, y, q⟩ := rif.mp (by omega)
          obtain ⟨e1, o1⟩ := dp_one dD d3
          exact absurd (q.trans (by rw [o1 j z y])) (q4 j z (by omega))
        · skip
          show pm_E _ _ _ 50 [(0, .ref 18), (1, .int (iI x))] [] _ _ _ _
          refine pm_e_sim pm_a181_50 rfl ?_
          refine pm_e_top (y := iI 1) (by decide +kernel) ?_
          show pm_E _ _ _ 51 [(0, .ref 18), (1, .int (iI x))] [.int (iI 1)] _ _ _ _
          refine pm_e_goto pm_a181_51 rfl ?_
          show pm_E _ _ _ 55 [(0, .ref 18), (1, .int (iI x))] [.int (iI 1)] _ _ _ _
          refine pm_e_ret pm_a181_55 rfl rfl rfl rfl rfl rfl rfl rfl ?_
          exact k 1 P D (Or.inr rfl) ⟨fun _ => ⟨by omega, by omega, m, f1, kk1, D, t1, dD, by omega, fun j z y q => by have := rif.mpr ⟨j, z, y, q⟩; omega⟩, fun _ => rfl⟩ (fun j z => hD j (by omega))
    · skip
      show pm_E _ _ _ 21 [(0, .ref 18), (1, .int (iI x))] [] _ _ _ _
      refine pm_e_sim pm_a181_21 rfl ?_
      refine pm_e_top (y := iI 0) (by decide +kernel) ?_
      show pm_E _ _ _ 22 [(0, .ref 18), (1, .int (iI x))] [.int (iI 0)] _ _ _ _
      refine pm_e_ret pm_a181_22 rfl rfl rfl rfl rfl rfl rfl rfl ?_
      refine pm_q_heap (show mh A s vl a nm B = mh A s vl (updA (updA a 5 (a 5)) 6 (a 6)) nm B from by rw [updA_self, updA_self]) ?_
      refine k 0 (a 6) (a 5) (Or.inl rfl) ⟨fun z => by omega, ?_⟩ (fun j _ => rfl)
      rintro ⟨z1, z2, m2, f2, k2, D2, t3, d3, q3, q4⟩
      first | omega | (have := tm_one t1 t3; subst this; omega)
