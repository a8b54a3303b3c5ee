/-! THE REFERENCE: kinds: any, arrow, root, typeOfLetter, unite -/
/-- kinds: what each became, its sides; no circle of becoming (t tells when) -/
def FI (B l r : Int → Int) (K : Int) : Prop := 0 ≤ K ∧ (∀ k, 0 ≤ k → k < K → (B k = -4 ∨ (0 ≤ B k ∧ B k < K)) ∧ (l k = -4 ∨ (0 ≤ l k ∧ l k < K ∧ 0 ≤ r k ∧ r k < K))) ∧ ∃ (t : Int → Int) (m : Int), ∀ k, 0 ≤ k → k < K → B k ≠ -4 → 0 ≤ t k ∧ t k < m ∧ (B (B k) ≠ -4 → t k < t (B k))
theorem FI_any {B l r : Int → Int} {K : Int} (h : FI B l r K) : FI (updI B K (-4)) (updI l K (-4)) r (K + 1) := by
  obtain ⟨h0, h1, t, m, h2⟩ := h
  refine ⟨by omega, fun k a b => ?_, t, m, fun k a b c => ?_⟩
  · by_cases hk : k = K
    · subst hk; rw [updI_s, updI_s]; exact ⟨Or.inl rfl, Or.inl rfl⟩
    · rw [updI_n _ _ hk, updI_n _ _ hk]
      have := h1 k a (by omega)
      omega
  · by_cases hk : k = K
    · subst hk; rw [updI_s] at c; omega
    · rw [updI_n _ _ hk] at c ⊢
      have h3 := h1 k a (by omega)
      rw [updI_n _ _ (by omega)]
      exact h2 k a (by omega) c
theorem FI_arrow {B l r : Int → Int} {K x y : Int} (h : FI B l r K) (hx : 0 ≤ x ∧ x < K) (hy : 0 ≤ y ∧ y < K) : FI (updI B K (-4)) (updI (updI l K (-4)) K x) (updI r K y) (K + 1) := by
  obtain ⟨h0, h1, t, m, h2⟩ := h
  refine ⟨by omega, fun k a b => ?_, t, m, fun k a b c => ?_⟩
  · by_cases hk : k = K
    · subst hk; rw [updI_s, updI_s, updI_s]; exact ⟨Or.inl rfl, Or.inr (by omega)⟩
    · rw [updI_n _ _ hk, updI_n _ _ hk, updI_n _ _ hk, updI_n _ _ hk]
      have := h1 k a (by omega)
      omega
  · by_cases hk : k = K
    · subst hk; rw [updI_s] at c; omega
    · rw [updI_n _ _ hk] at c ⊢
      have h3 := h1 k a (by omega)
      rw [updI_n _ _ (by omega)]
      exact h2 k a (by omega) c
theorem FI_link {B l r : Int → Int} {K g y : Int} (h : FI B l r K) (hg : 0 ≤ g ∧ g < K) (hy : 0 ≤ y ∧ y < K) (hgy : g ≠ y) (hB : B g = -4) (hB2 : B y = -4) : FI (updI B g y) l r K := by
  obtain ⟨h0, h1, t, m, h2⟩ := h
  refine ⟨h0, fun k a b => ?_, updI t g (if 0 ≤ m then m else 0), (if 0 ≤ m then m else 0) + 1, fun k a b c => ?_⟩
  · by_cases hk : k = g
    · subst hk; rw [updI_s]; exact ⟨Or.inr hy, (h1 k a b).2⟩
    · rw [updI_n _ _ hk]; exact h1 k a b
  · by_cases hk : k = g
    · subst hk
      rw [updI_s, updI_s, updI_n _ _ (by omega), hB2]
      refine ⟨?_, by omega, fun z => absurd rfl z⟩
      split <;> omega
    · rw [updI_n _ _ hk] at c ⊢
      rw [updI_n _ _ hk]
      obtain ⟨a1, a2, a3⟩ := h2 k a b c
      refine ⟨a1, by split <;> omega, fun z => ?_⟩
      by_cases hq : B k = g
      · rw [hq, updI_s]; split <;> omega
      · rw [updI_n _ _ hq] at z ⊢; exact a3 z
def cnb (B : Int → Int) : Nat → Int
  | 0 => 0
  | n + 1 => cnb B n + (if B n = -4 then 0 else 1)
theorem cnb_le {B : Int → Int} : ∀ {n : Nat}, 0 ≤ cnb B n ∧ cnb B n ≤ n := by
  intro n
  induction n with
  | zero => exact ⟨Int.le_refl 0, Int.le_refl 0⟩
  | succ n ih =>
    show 0 ≤ cnb B n + _ ∧ cnb B n + _ ≤ _
    split <;> omega
theorem cnb_eq {B B' : Int → Int} : ∀ {n : Nat}, (∀ j, 0 ≤ j → j < (n : Int) → B' j = B j) → cnb B' n = cnb B n := by
  intro n
  induction n with
  | zero => intro _; rfl
  | succ n ih =>
    intro h
    show cnb B' n + (if B' n = -4 then 0 else 1) = cnb B n + (if B n = -4 then 0 else 1)
    rw [ih (fun j z y => h j z (by omega)), h n (by omega) (by omega)]
theorem cnb_up {B : Int → Int} {g y : Int} (hB : B g = -4) (hy : y ≠ -4) : ∀ {n : Nat}, 0 ≤ g → g < n → cnb (updI B g y) n = cnb B n + 1 := by
  intro n
  induction n with
  | zero => intro h0 h1; omega
  | succ n ih =>
    intro h0 h1
    show cnb (updI B g y) n + (if updI B g y n = -4 then 0 else 1) = cnb B n + (if B n = -4 then 0 else 1) + 1
    by_cases hq : g = n
    · subst hq
      rw [updI_s, if_neg hy, if_pos hB, cnb_eq (B := B) (fun j z y => updI_n _ _ (by omega))]
      omega
    · rw [ih h0 (by omega), updI_n _ _ (by omega)]
      omega
set_option maxHeartbeats 4000000 in
set_option maxRecDepth 100000 in
theorem M_any {d : Nat} {A B : List va_E} {s : Nat → Int} {vl : Int64} {a : Nat → Int → Int} {nm : Nat → Int64} {Q : Option Value → List va_E → Nat → Nat → Prop} (hA : A.length = 18) (h0 : 0 ≤ s 32) (h1 : s 32 < 9000) (k : ∀ s' a', s' = updS s 32 (s 32 + 1) → a' = updA (updA a 17 (updI (a 17) (s 32) (-4))) 18 (updI (a 18) (s 32) (-4)) → Q (some (.int (iI (s 32)))) (mh A s' vl a' nm B) 0 0) : pm_E none d pm_mm204 0 [(0, .ref 18)] [] (mh A s vl a nm B) 0 0 Q := by
  refine pm_e_sim pm_a204_0 rfl ?_
  show pm_E _ _ _ 1 [(0, .ref 18)] [.ref 18] _ _ _ _
  refine pm_i_get pm_a204_1 rfl (mh_get (j := 0) hA rfl) rfl ?_
  show pm_E _ _ _ 4 [(0, .ref 18)] [.ref 35] _ _ _ _
  refine pm_e_sim pm_a204_4 rfl ?_
  show pm_E _ _ _ 5 [(0, .ref 18)] [.ref 18, .ref 35] _ _ _ _
  refine pm_i_get pm_a204_5 rfl (mh_get (j := 0) hA rfl) rfl ?_
  show pm_E _ _ _ 8 [(0, .ref 18)] [.int (iI (s 32)), .ref 35] _ _ _ _
  refine pm_e_sim pm_a204_8 rfl ?_
  refine pm_e_top (y := iI (-4)) (by decide +kernel) ?_
  show pm_E _ _ _ 10 [(0, .ref 18)] [.int (iI (-4)), .int (iI (s 32)), .ref 35] _ _ _ _
  refine pm_i_ast pm_a204_10 (mh_get (j := 17) hA rfl) (by omega) (by omega) ⟨by omega, by omega⟩ (ma_17 hA _) ?_
  show pm_E _ _ _ 11 [(0, .ref 18)] [] _ _ _ _
  refine pm_e_sim pm_a204_11 rfl ?_
  show pm_E _ _ _ 12 [(0, .ref 18)] [.ref 18] _ _ _ _
  refine pm_i_get pm_a204_12 rfl (mh_get (j := 0) hA rfl) rfl ?_
  show pm_E _ _ _ 15 [(0, .ref 18)] [.ref 36] _ _ _ _
  refine pm_e_sim pm_a204_15 rfl ?_
  show pm_E _ _ _ 16 [(0, .ref 18)] [.ref 18, .ref 36] _ _ _ _
  refine pm_i_get pm_a204_16 rfl (mh_get (j := 0) hA rfl) rfl ?_
  show pm_E _ _ _ 19 [(0, .ref 18)] [.int (iI (s 32)), .ref 36] _ _ _ _
  refine pm_e_sim pm_a204_19 rfl ?_
  refine pm_e_top (y := iI (-4)) (by decide +kernel) ?_
  show pm_E _ _ _ 21 [(0, .ref 18)] [.int (iI (-4)), .int (iI (s 32)), .ref 36] _ _ _ _
  refine pm_i_ast pm_a204_21 (mh_get (j := 18) hA rfl) (by omega) (by omega) ⟨by omega, by omega⟩ (ma_18 hA _) ?_
  show pm_E _ _ _ 22 [(0, .ref 18)] [] _ _ _ _
  refine pm_e_sim pm_a204_22 rfl ?_
  show pm_E _ _ _ 23 [(0, .ref 18)] [.ref 18] _ _ _ _
  refine pm_e_sim pm_a204_23 rfl ?_
  show pm_E _ _ _ 24 [(0, .ref 18)] [.ref 18, .ref 18] _ _ _ _
  refine pm_i_get pm_a204_24 rfl (mh_get (j := 0) hA rfl) rfl ?_
  show pm_E _ _ _ 27 [(0, .ref 18)] [.int (iI (s 32)), .ref 18] _ _ _ _
  refine pm_e_sim pm_a204_27 rfl ?_
  refine pm_e_top (y := iI 1) (by decide +kernel) ?_
  show pm_E _ _ _ 28 [(0, .ref 18)] [.int (iI 1), .int (iI (s 32)), .ref 18] _ _ _ _
  refine pm_e_sim pm_a204_28 rfl ?_
  refine pm_e_top (y := iI (s 32 + 1)) (iI_add _ _) ?_
  show pm_E _ _ _ 29 [(0, .ref 18)] [.int (iI (s 32 + 1)), .ref 18] _ _ _ _
  refine pm_i_put pm_a204_29 rfl (mh_get (j := 0) hA rfl) rfl (Nat.le_of_ble_eq_true rfl) (Or.inl rfl) (mw_32 hA _) ?_
  show pm_E _ _ _ 32 [(0, .ref 18)] [] _ _ _ _
  refine pm_e_sim pm_a204_32 rfl ?_
  show pm_E _ _ _ 33 [(0, .ref 18)] [.ref 18] _ _ _ _
  refine pm_i_get pm_a204_33 rfl (mh_get (j := 0) hA rfl) rfl ?_
  show pm_E _ _ _ 36 [(0, .ref 18)] [.int (iI (s 32 + 1))] _ _ _ _
  refine pm_e_sim pm_a204_36 rfl ?_
  refine pm_e_top (y := iI 1) (by decide +kernel) ?_
  show pm_E _ _ _ 37 [(0, .ref 18)] [.int (iI 1), .int (iI (s 32 + 1))] _ _ _ _
  refine pm_e_sim pm_a204_37 rfl ?_
  refine pm_e_top (y := iI (s 32 + 1 - 1)) (iI_sub _ _) ?_
  show pm_E _ _ _ 38 [(0, .ref 18)] [.int (iI (s 32 + 1 - 1))] _ _ _ _
  refine pm_e_ret pm_a204_38 rfl rfl rfl rfl rfl rfl rfl rfl ?_
  refine pm_q_v (y := iI (s 32)) (congrArg iI (by omega)) ?_
  exact k _ _ rfl rfl
set_option maxHeartbeats 4000000 in
set_option maxRecDepth 100000 in
theorem M_arrow {d : Nat} {A B : List va_E} {s : Nat → Int} {vl : Int64} {a : Nat → Int → Int} {nm : Nat → Int64} {Q : Option Value → List va_E → Nat → Nat → Prop} {x y : Int} (hA : A.length = 18) (h0 : 0 ≤ s 32) (h1 : s 32 < 9000) (k : ∀ s' a', s' = updS s 32 (s 32 + 1) → (a' 17 = updI (a 17) (s 32) (-4) ∧ a' 18 = updI (updI (a 18) (s 32) (-4)) (s 32) x ∧ a' 19 = updI (a 19) (s 32) y ∧ ∀ j, j ≠ 17 → j ≠ 18 → j ≠ 19 → a' j = a j) → Q (some (.int (iI (s 32)))) (mh A s' vl a' nm B) 0 0) : pm_E none (d + 1) pm_mm205 0 [(0, .ref 18), (1, .int (iI x)), (2, .int (iI y))] [] (mh A s vl a nm B) 0 0 Q := by
  refine pm_e_sim pm_a205_0 rfl ?_
  show pm_E _ _ _ 1 [(0, .ref 18), (1, .int (iI x)), (2, .int (iI y))] [.ref 18] _ _ _ _
  refine pm_i_callv (k := 18) (T2 := pm_mm204) pm_a205_1 rfl rfl rfl (mh_get (j := 0) hA rfl) ⟨Nat.le_of_ble_eq_true rfl, Nat.le_of_ble_eq_true rfl, rfl, by decide +kernel⟩ ?_
  show pm_E none _ _ 0 [(0, .ref 18)] [] _ _ _ _
  refine M_any hA (by omega) (by omega) (fun s1 a1 es ea => ?_)
  show pm_E _ _ _ 4 [(0, .ref 18), (1, .int (iI x)), (2, .int (iI y))] [.int (iI (s 32))] _ _ _ _
  refine pm_e_sim pm_a205_4 rfl ?_
  show pm_E _ _ _ 5 [(0, .ref 18), (1, .int (iI x)), (2, .int (iI y)), (3, .int (iI (s 32)))] [] _ _ _ _
  refine pm_e_sim pm_a205_5 rfl ?_
  show pm_E _ _ _ 6 [(0, .ref 18), (1, .int (iI x)), (2, .int (iI y)), (3, .int (iI (s 32)))] [.ref 18] _ _ _ _
  refine pm_i_get pm_a205_6 rfl (mh_get (j := 0) hA rfl) rfl ?_
  show pm_E _ _ _ 9 [(0, .ref 18), (1, .int (iI x)), (2, .int (iI y)), (3, .int (iI (s 32)))] [.ref 36] _ _ _ _
  refine pm_e_sim pm_a205_9 rfl ?_
  show pm_E _ _ _ 10 [(0, .ref 18), (1, .int (iI x)), (2, .int (iI y)), (3, .int (iI (s 32)))] [.int (iI (s 32)), .ref 36] _ _ _ _
  refine pm_e_sim pm_a205_10 rfl ?_
  show pm_E _ _ _ 11 [(0, .ref 18), (1, .int (iI x)), (2, .int (iI y)), (3, .int (iI (s 32)))] [.int (iI x), .int (iI (s 32)), .ref 36] _ _ _ _
  refine pm_i_ast pm_a205_11 (mh_get (j := 18) hA rfl) (by omega) (by omega) ⟨by omega, by omega⟩ (ma_18 hA _) ?_
  show pm_E _ _ _ 12 [(0, .ref 18), (1, .int (iI x)), (2, .int (iI y)), (3, .int (iI (s 32)))] [] _ _ _ _
  refine pm_e_sim pm_a205_12 rfl ?_
  show pm_E _ _ _ 13 [(0, .ref 18), (1, .int (iI x)), (2, .int (iI y)), (3, .int (iI (s 32)))] [.ref 18] _ _ _ _
  refine pm_i_get pm_a205_13 rfl (mh_get (j := 0) hA rfl) rfl ?_
  show pm_E _ _ _ 16 [(0, .ref 18), (1, .int (iI x)), (2, .int (iI y)), (3, .int (iI (s 32)))] [.ref 37] _ _ _ _
  refine pm_e_sim pm_a205_16 rfl ?_
  show pm_E _ _ _ 17 [(0, .ref 18), (1, .int (iI x)), (2, .int (iI y)), (3, .int (iI (s 32)))] [.int (iI (s 32)), .ref 37] _ _ _ _
  refine pm_e_sim pm_a205_17 rfl ?_
  show pm_E _ _ _ 18 [(0, .ref 18), (1, .int (iI x)), (2, .int (iI y)), (3, .int (iI (s 32)))] [.int (iI y), .int (iI (s 32)), .ref 37] _ _ _ _
  refine pm_i_ast pm_a205_18 (mh_get (j := 19) hA rfl) (by omega) (by omega) ⟨by omega, by omega⟩ (ma_19 hA _) ?_
  show pm_E _ _ _ 19 [(0, .ref 18), (1, .int (iI x)), (2, .int (iI y)), (3, .int (iI (s 32)))] [] _ _ _ _
  refine pm_e_sim pm_a205_19 rfl ?_
  show pm_E _ _ _ 20 [(0, .ref 18), (1, .int (iI x)), (2, .int (iI y)), (3, .int (iI (s 32)))] [.int (iI (s 32))] _ _ _ _
  refine pm_e_ret pm_a205_20 rfl rfl rfl rfl rfl rfl rfl rfl ?_
  subst es; subst ea
  exact k _ _ rfl ⟨rfl, rfl, rfl, fun j h1 h2 h3 => by simp [updA, h1, h2, h3]⟩
set_option maxHeartbeats 4000000 in
set_option maxRecDepth 100000 in
theorem M_root_l {d : Nat} {A B : List va_E} {s : Nat → Int} {vl : Int64} {a : Nat → Int → Int} {nm : Nat → Int64} {Q : Option Value → List va_E → Nat → Nat → Prop} {x m : Int} {t : Int → Int} (hA : A.length = 18) (hK : s 32 ≤ 9000) (hB : ∀ k, 0 ≤ k → k < s 32 → a 17 k = -4 ∨ (0 ≤ a 17 k ∧ a 17 k < s 32)) (ht : ∀ k, 0 ≤ k → k < s 32 → a 17 k ≠ -4 → 0 ≤ t k ∧ t k < m ∧ (a 17 (a 17 k) ≠ -4 → t k < t (a 17 k))) (k : ∀ r, 0 ≤ r → r < s 32 → a 17 r = -4 → Q (some (.int (iI r))) (mh A s vl a nm B) 0 0) : ∀ (f : Nat) (r : Int), 0 ≤ r → r < s 32 → (if a 17 r = -4 then 0 else m - t r) < (f : Int) → pm_E none d pm_mm207 2 [(0, .ref 18), (1, .int (iI x)), (2, .int (iI r))] [] (mh A s vl a nm B) 0 0 Q := by
  intro f
  induction f with
  | zero =>
    intro r h0 h1 hf
    have b2 := ht r h0 h1
    exfalso; split at hf <;> omega
  | succ f ih =>
    intro r h0 h1 hf
    have b1 := hB r h0 h1
    refine pm_e_sim pm_a207_2 rfl ?_
    show pm_E _ _ _ 3 [(0, .ref 18), (1, .int (iI x)), (2, .int (iI r))] [.ref 18] _ _ _ _
    refine pm_i_get pm_a207_3 rfl (mh_get (j := 0) hA rfl) rfl ?_
    show pm_E _ _ _ 6 [(0, .ref 18), (1, .int (iI x)), (2, .int (iI r))] [.ref 35] _ _ _ _
    refine pm_e_sim pm_a207_6 rfl ?_
    show pm_E _ _ _ 7 [(0, .ref 18), (1, .int (iI x)), (2, .int (iI r))] [.int (iI r), .ref 35] _ _ _ _
    refine pm_i_ald pm_a207_7 (mh_get (j := 17) hA rfl) (by omega) (by omega) ⟨by omega, by omega⟩ ?_
    show pm_E _ _ _ 8 [(0, .ref 18), (1, .int (iI x)), (2, .int (iI r))] [.int (iI ((a 17) (r)))] _ _ _ _
    refine pm_e_sim pm_a207_8 rfl ?_
    refine pm_e_top (y := iI (-4)) (by decide +kernel) ?_
    show pm_E _ _ _ 10 [(0, .ref 18), (1, .int (iI x)), (2, .int (iI r))] [.int (iI (-4)), .int (iI ((a 17) (r)))] _ _ _ _
    refine pm_c_eq (t := 23) pm_a207_10 rfl ⟨by omega, by omega⟩ ⟨by omega, by omega⟩ (fun h_1 => ?_) (fun h_1 => ?_)
    · skip
      show pm_E _ _ _ 23 [(0, .ref 18), (1, .int (iI x)), (2, .int (iI r))] [] _ _ _ _
      refine pm_e_sim pm_a207_23 rfl ?_
      show pm_E _ _ _ 24 [(0, .ref 18), (1, .int (iI x)), (2, .int (iI r))] [.int (iI r)] _ _ _ _
      refine pm_e_ret pm_a207_24 rfl rfl rfl rfl rfl rfl rfl rfl ?_
      exact k r h0 h1 (by omega)
    · skip
      show pm_E _ _ _ 13 [(0, .ref 18), (1, .int (iI x)), (2, .int (iI r))] [] _ _ _ _
      refine pm_e_sim pm_a207_13 rfl ?_
      show pm_E _ _ _ 14 [(0, .ref 18), (1, .int (iI x)), (2, .int (iI r))] [.ref 18] _ _ _ _
      refine pm_i_get pm_a207_14 rfl (mh_get (j := 0) hA rfl) rfl ?_
      show pm_E _ _ _ 17 [(0, .ref 18), (1, .int (iI x)), (2, .int (iI r))] [.ref 35] _ _ _ _
      refine pm_e_sim pm_a207_17 rfl ?_
      show pm_E _ _ _ 18 [(0, .ref 18), (1, .int (iI x)), (2, .int (iI r))] [.int (iI r), .ref 35] _ _ _ _
      refine pm_i_ald pm_a207_18 (mh_get (j := 17) hA rfl) (by omega) (by omega) ⟨by omega, by omega⟩ ?_
      show pm_E _ _ _ 19 [(0, .ref 18), (1, .int (iI x)), (2, .int (iI r))] [.int (iI ((a 17) (r)))] _ _ _ _
      refine pm_e_sim pm_a207_19 rfl ?_
      show pm_E _ _ _ 20 [(0, .ref 18), (1, .int (iI x)), (2, .int (iI ((a 17) (r))))] [] _ _ _ _
      refine pm_e_goto pm_a207_20 rfl ?_
      show pm_E _ _ _ 2 [(0, .ref 18), (1, .int (iI x)), (2, .int (iI ((a 17) (r))))] [] _ _ _ _
      rw [if_neg (by omega)] at hf
      have t2 := ht r h0 h1 (by omega)
      refine ih (a 17 r) (by omega) (by omega) ?_
      split
      · omega
      · rename_i z; have := t2.2.2 z; omega
set_option maxHeartbeats 4000000 in
set_option maxRecDepth 100000 in
theorem M_root {d : Nat} {A B : List va_E} {s : Nat → Int} {vl : Int64} {a : Nat → Int → Int} {nm : Nat → Int64} {Q : Option Value → List va_E → Nat → Nat → Prop} {x : Int} (hA : A.length = 18) (hF : FI (a 17) (a 18) (a 19) (s 32)) (hK : s 32 ≤ 9000) (hx0 : 0 ≤ x) (hx1 : x < s 32) (k : ∀ r, 0 ≤ r → r < s 32 → a 17 r = -4 → Q (some (.int (iI r))) (mh A s vl a nm B) 0 0) : pm_E none d pm_mm207 0 [(0, .ref 18), (1, .int (iI x))] [] (mh A s vl a nm B) 0 0 Q := by
  obtain ⟨h0, h1, t, m, h2⟩ := hF
  refine pm_e_sim pm_a207_0 rfl ?_
  show pm_E _ _ _ 1 [(0, .ref 18), (1, .int (iI x))] [.int (iI x)] _ _ _ _
  refine pm_e_sim pm_a207_1 rfl ?_
  show pm_E _ _ _ 2 [(0, .ref 18), (1, .int (iI x)), (2, .int (iI x))] [] _ _ _ _
  exact M_root_l hA (by omega) (fun k z y => (h1 k z y).1) h2 k ((if a 17 x = -4 then 0 else m - t x) + 1).toNat x hx0 hx1 (by have h3 := h2 x hx0 hx1; split at * <;> omega)
