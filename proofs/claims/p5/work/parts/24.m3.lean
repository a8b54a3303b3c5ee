/-! THE REFERENCE: take, keep, endOf -/
def cpI (g f : Int → Int) (o i n : Int) : Int → Int := fun j => if i ≤ j ∧ j < n then f (o + j) else g j
def cqI (g f : Int → Int) (o i n : Int) : Int → Int := fun j => if o + i ≤ j ∧ j < o + n then f (j - o) else g j
theorem cpI_step {g f : Int → Int} {o i n : Int} (h : i < n) : cpI (updI g i (f (o + i))) f o (i + 1) n = cpI g f o i n := by
  funext z
  unfold cpI updI
  by_cases h3 : z = i
  · subst h3
    rw [if_neg (by omega), if_pos rfl, if_pos (by omega)]
  · by_cases h2 : i + 1 ≤ z ∧ z < n
    · rw [if_pos h2, if_pos (by omega)]
    · rw [if_neg h2, if_neg h3, if_neg (by omega)]
theorem cqI_step {g f : Int → Int} {o i n : Int} (h : i < n) : cqI (updI g (o + i) (f i)) f o (i + 1) n = cqI g f o i n := by
  funext z
  unfold cqI updI
  by_cases h3 : z = o + i
  · subst h3
    rw [if_neg (by omega), if_pos rfl, if_pos (by omega), show o + i - o = i by omega]
  · by_cases h2 : o + (i + 1) ≤ z ∧ z < o + n
    · rw [if_pos h2, if_pos (by omega)]
    · rw [if_neg h2, if_neg h3, if_neg (by omega)]
theorem cpI_0 {g f : Int → Int} {o i n : Int} (h : n ≤ i) : cpI g f o i n = g := by
  funext z
  unfold cpI
  rw [if_neg (by omega)]
theorem cqI_0 {g f : Int → Int} {o i n : Int} (h : n ≤ i) : cqI g f o i n = g := by
  funext z
  unfold cqI
  rw [if_neg (by omega)]
set_option maxHeartbeats 4000000 in
set_option maxRecDepth 100000 in
theorem M_take_l {d : Nat} {A B : List va_E} {s : Nat → Int} {vl : Int64} {nm : Nat → Int64} {Q : Option Value → List va_E → Nat → Nat → Prop} {x : Int} (hA : A.length = 18) (hx0 : 0 ≤ x) (hx1 : x < 32) (hn0 : 0 ≤ s 6) (hn1 : s 6 ≤ 500) : ∀ (m : Nat) (i : Int) (a : Nat → Int → Int), 0 ≤ i → i + m = s 6 → (∀ a', a' = updA a 4 (cpI (a 4) (a 2) (500 * x) i (s 6)) → Q none (mh A s vl a' nm B) 0 0) → pm_E none d pm_mm168 12 [(0, .ref 18), (1, .int (iI x)), (2, .int (iI i))] [] (mh A s vl a nm B) 0 0 Q := by
  intro m
  induction m with
  | zero =>
    intro i a hi hm k
    refine pm_e_sim pm_a168_12 rfl ?_
    show pm_E _ _ _ 13 [(0, .ref 18), (1, .int (iI x)), (2, .int (iI i))] [.int (iI i)] _ _ _ _
    refine pm_e_sim pm_a168_13 rfl ?_
    show pm_E _ _ _ 14 [(0, .ref 18), (1, .int (iI x)), (2, .int (iI i))] [.ref 18, .int (iI i)] _ _ _ _
    refine pm_i_get pm_a168_14 rfl (mh_get (j := 0) hA rfl) rfl ?_
    show pm_E _ _ _ 17 [(0, .ref 18), (1, .int (iI x)), (2, .int (iI i))] [.int (iI (s 6)), .int (iI i)] _ _ _ _
    refine pm_c_ge (t := 44) pm_a168_17 rfl ⟨by omega, by omega⟩ ⟨by omega, by omega⟩ (fun h_1 => ?_) (fun h_1 => ?_)
    · skip
      show pm_E _ _ _ 44 [(0, .ref 18), (1, .int (iI x)), (2, .int (iI i))] [] _ _ _ _
      refine pm_e_ret pm_a168_44 rfl rfl rfl rfl rfl rfl rfl rfl ?_
      refine k _ ?_
      funext j; by_cases hj : j = 4
      · subst hj; simp only [updA, if_true]; exact (cpI_0 (by omega)).symm
      · simp [updA, hj]
    · skip
      exfalso; omega
  | succ m ih =>
    intro i a hi hm k
    refine pm_e_sim pm_a168_12 rfl ?_
    show pm_E _ _ _ 13 [(0, .ref 18), (1, .int (iI x)), (2, .int (iI i))] [.int (iI i)] _ _ _ _
    refine pm_e_sim pm_a168_13 rfl ?_
    show pm_E _ _ _ 14 [(0, .ref 18), (1, .int (iI x)), (2, .int (iI i))] [.ref 18, .int (iI i)] _ _ _ _
    refine pm_i_get pm_a168_14 rfl (mh_get (j := 0) hA rfl) rfl ?_
    show pm_E _ _ _ 17 [(0, .ref 18), (1, .int (iI x)), (2, .int (iI i))] [.int (iI (s 6)), .int (iI i)] _ _ _ _
    refine pm_c_ge (t := 44) pm_a168_17 rfl ⟨by omega, by omega⟩ ⟨by omega, by omega⟩ (fun h_1 => ?_) (fun h_1 => ?_)
    · skip
      exfalso; omega
    · skip
      show pm_E _ _ _ 20 [(0, .ref 18), (1, .int (iI x)), (2, .int (iI i))] [] _ _ _ _
      refine pm_e_sim pm_a168_20 rfl ?_
      show pm_E _ _ _ 21 [(0, .ref 18), (1, .int (iI x)), (2, .int (iI i))] [.ref 18] _ _ _ _
      refine pm_i_get pm_a168_21 rfl (mh_get (j := 0) hA rfl) rfl ?_
      show pm_E _ _ _ 24 [(0, .ref 18), (1, .int (iI x)), (2, .int (iI i))] [.ref 22] _ _ _ _
      refine pm_e_sim pm_a168_24 rfl ?_
      show pm_E _ _ _ 25 [(0, .ref 18), (1, .int (iI x)), (2, .int (iI i))] [.int (iI i), .ref 22] _ _ _ _
      refine pm_e_sim pm_a168_25 rfl ?_
      show pm_E _ _ _ 26 [(0, .ref 18), (1, .int (iI x)), (2, .int (iI i))] [.ref 18, .int (iI i), .ref 22] _ _ _ _
      refine pm_i_get pm_a168_26 rfl (mh_get (j := 0) hA rfl) rfl ?_
      show pm_E _ _ _ 29 [(0, .ref 18), (1, .int (iI x)), (2, .int (iI i))] [.ref 20, .int (iI i), .ref 22] _ _ _ _
      refine pm_e_sim pm_a168_29 rfl ?_
      refine pm_e_top (y := iI 500) (by decide +kernel) ?_
      show pm_E _ _ _ 32 [(0, .ref 18), (1, .int (iI x)), (2, .int (iI i))] [.int (iI 500), .ref 20, .int (iI i), .ref 22] _ _ _ _
      refine pm_e_sim pm_a168_32 rfl ?_
      show pm_E _ _ _ 33 [(0, .ref 18), (1, .int (iI x)), (2, .int (iI i))] [.int (iI x), .int (iI 500), .ref 20, .int (iI i), .ref 22] _ _ _ _
      refine pm_e_sim pm_a168_33 rfl ?_
      refine pm_e_top (y := iI (500 * x)) (iI_mul _ _) ?_
      show pm_E _ _ _ 34 [(0, .ref 18), (1, .int (iI x)), (2, .int (iI i))] [.int (iI (500 * x)), .ref 20, .int (iI i), .ref 22] _ _ _ _
      refine pm_e_sim pm_a168_34 rfl ?_
      show pm_E _ _ _ 35 [(0, .ref 18), (1, .int (iI x)), (2, .int (iI i))] [.int (iI i), .int (iI (500 * x)), .ref 20, .int (iI i), .ref 22] _ _ _ _
      refine pm_e_sim pm_a168_35 rfl ?_
      refine pm_e_top (y := iI (500 * x + i)) (iI_add _ _) ?_
      show pm_E _ _ _ 36 [(0, .ref 18), (1, .int (iI x)), (2, .int (iI i))] [.int (iI (500 * x + i)), .ref 20, .int (iI i), .ref 22] _ _ _ _
      refine pm_i_ald pm_a168_36 (mh_get (j := 2) hA rfl) (by omega) (by omega) ⟨by omega, by omega⟩ ?_
      show pm_E _ _ _ 37 [(0, .ref 18), (1, .int (iI x)), (2, .int (iI i))] [.int (iI ((a 2) (500 * x + i))), .int (iI i), .ref 22] _ _ _ _
      refine pm_i_ast pm_a168_37 (mh_get (j := 4) hA rfl) (by omega) (by omega) ⟨by omega, by omega⟩ (ma_4 hA _) ?_
      show pm_E _ _ _ 38 [(0, .ref 18), (1, .int (iI x)), (2, .int (iI i))] [] _ _ _ _
      refine pm_e_inc (y := iI (i + 1)) pm_a168_38 rfl (iI_add _ _) (by decide +kernel) rfl ?_
      show pm_E _ _ _ 41 [(0, .ref 18), (1, .int (iI x)), (2, .int (iI (i + 1)))] [] _ _ _ _
      refine pm_e_goto pm_a168_41 rfl ?_
      show pm_E _ _ _ 12 [(0, .ref 18), (1, .int (iI x)), (2, .int (iI (i + 1)))] [] _ _ _ _
      refine ih (i + 1) _ (by omega) (by omega) (fun a' e => k a' ?_)
      rw [e]; funext j; by_cases hj : j = 4
      · subst hj; show cpI (updI (a 4) i (a 2 (500 * x + i))) (a 2) (500 * x) (i + 1) (s 6) = cpI (a 4) (a 2) (500 * x) i (s 6); exact cpI_step (by omega)
      · simp [updA, hj]
set_option maxHeartbeats 4000000 in
set_option maxRecDepth 100000 in
theorem M_take {d : Nat} {A B : List va_E} {s : Nat → Int} {vl : Int64} {a : Nat → Int → Int} {nm : Nat → Int64} {Q : Option Value → List va_E → Nat → Nat → Prop} {x : Int} (hA : A.length = 18) (hx0 : 0 ≤ x) (hx1 : x < 32) (hn0 : 0 ≤ a 1 x) (hn1 : a 1 x ≤ 500) (k : ∀ s' a', s' = updS s 6 (a 1 x) → a' = updA a 4 (cpI (a 4) (a 2) (500 * x) 0 (a 1 x)) → Q none (mh A s' vl a' nm B) 0 0) : pm_E none d pm_mm168 0 [(0, .ref 18), (1, .int (iI x))] [] (mh A s vl a nm B) 0 0 Q := by
  refine pm_e_sim pm_a168_0 rfl ?_
  show pm_E _ _ _ 1 [(0, .ref 18), (1, .int (iI x))] [.ref 18] _ _ _ _
  refine pm_e_sim pm_a168_1 rfl ?_
  show pm_E _ _ _ 2 [(0, .ref 18), (1, .int (iI x))] [.ref 18, .ref 18] _ _ _ _
  refine pm_i_get pm_a168_2 rfl (mh_get (j := 0) hA rfl) rfl ?_
  show pm_E _ _ _ 5 [(0, .ref 18), (1, .int (iI x))] [.ref 19, .ref 18] _ _ _ _
  refine pm_e_sim pm_a168_5 rfl ?_
  show pm_E _ _ _ 6 [(0, .ref 18), (1, .int (iI x))] [.int (iI x), .ref 19, .ref 18] _ _ _ _
  refine pm_i_ald pm_a168_6 (mh_get (j := 1) hA rfl) (by omega) (by omega) ⟨by omega, by omega⟩ ?_
  show pm_E _ _ _ 7 [(0, .ref 18), (1, .int (iI x))] [.int (iI ((a 1) (x))), .ref 18] _ _ _ _
  refine pm_i_put pm_a168_7 rfl (mh_get (j := 0) hA rfl) rfl (Nat.le_of_ble_eq_true rfl) (Or.inl rfl) (mw_6 hA _) ?_
  show pm_E _ _ _ 10 [(0, .ref 18), (1, .int (iI x))] [] _ _ _ _
  refine pm_e_sim pm_a168_10 rfl ?_
  refine pm_e_top (y := iI 0) (by decide +kernel) ?_
  show pm_E _ _ _ 11 [(0, .ref 18), (1, .int (iI x))] [.int (iI 0)] _ _ _ _
  refine pm_e_sim pm_a168_11 rfl ?_
  show pm_E _ _ _ 12 [(0, .ref 18), (1, .int (iI x)), (2, .int (iI 0))] [] _ _ _ _
  have g6 : updS s 6 (a 1 x) 6 = a 1 x := by simp [updS]
  refine M_take_l hA hx0 hx1 (by omega) (by omega) (a 1 x).toNat 0 a (by omega) (by omega) (fun a' e => k _ a' rfl ?_)
  rw [e, g6]
set_option maxHeartbeats 4000000 in
set_option maxRecDepth 100000 in
theorem M_keep_l {d : Nat} {A B : List va_E} {s : Nat → Int} {vl : Int64} {nm : Nat → Int64} {Q : Option Value → List va_E → Nat → Nat → Prop} {x : Int} (hA : A.length = 18) (hx0 : 0 ≤ x) (hx1 : x < 32) (hn0 : 0 ≤ s 6) (hn1 : s 6 ≤ 500) : ∀ (m : Nat) (i : Int) (a : Nat → Int → Int), 0 ≤ i → i + m = s 6 → (∀ a', a' = updA a 2 (cqI (a 2) (a 4) (500 * x) i (s 6)) → Q none (mh A s vl a' nm B) 0 0) → pm_E none d pm_mm162 12 [(0, .ref 18), (1, .int (iI x)), (2, .int (iI i))] [] (mh A s vl a nm B) 0 0 Q := by
  intro m
  induction m with
  | zero =>
    intro i a hi hm k
    refine pm_e_sim pm_a162_12 rfl ?_
    show pm_E _ _ _ 13 [(0, .ref 18), (1, .int (iI x)), (2, .int (iI i))] [.int (iI i)] _ _ _ _
    refine pm_e_sim pm_a162_13 rfl ?_
    show pm_E _ _ _ 14 [(0, .ref 18), (1, .int (iI x)), (2, .int (iI i))] [.ref 18, .int (iI i)] _ _ _ _
    refine pm_i_get pm_a162_14 rfl (mh_get (j := 0) hA rfl) rfl ?_
    show pm_E _ _ _ 17 [(0, .ref 18), (1, .int (iI x)), (2, .int (iI i))] [.int (iI (s 6)), .int (iI i)] _ _ _ _
    refine pm_c_ge (t := 44) pm_a162_17 rfl ⟨by omega, by omega⟩ ⟨by omega, by omega⟩ (fun h_1 => ?_) (fun h_1 => ?_)
    · skip
      show pm_E _ _ _ 44 [(0, .ref 18), (1, .int (iI x)), (2, .int (iI i))] [] _ _ _ _
      refine pm_e_ret pm_a162_44 rfl rfl rfl rfl rfl rfl rfl rfl ?_
      refine k _ ?_
      funext j; by_cases hj : j = 2
      · subst hj; simp only [updA, if_true]; exact (cqI_0 (by omega)).symm
      · simp [updA, hj]
    · skip
      exfalso; omega
  | succ m ih =>
    intro i a hi hm k
    refine pm_e_sim pm_a162_12 rfl ?_
    show pm_E _ _ _ 13 [(0, .ref 18), (1, .int (iI x)), (2, .int (iI i))] [.int (iI i)] _ _ _ _
    refine pm_e_sim pm_a162_13 rfl ?_
    show pm_E _ _ _ 14 [(0, .ref 18), (1, .int (iI x)), (2, .int (iI i))] [.ref 18, .int (iI i)] _ _ _ _
    refine pm_i_get pm_a162_14 rfl (mh_get (j := 0) hA rfl) rfl ?_
    show pm_E _ _ _ 17 [(0, .ref 18), (1, .int (iI x)), (2, .int (iI i))] [.int (iI (s 6)), .int (iI i)] _ _ _ _
    refine pm_c_ge (t := 44) pm_a162_17 rfl ⟨by omega, by omega⟩ ⟨by omega, by omega⟩ (fun h_1 => ?_) (fun h_1 => ?_)
    · skip
      exfalso; omega
    · skip
      show pm_E _ _ _ 20 [(0, .ref 18), (1, .int (iI x)), (2, .int (iI i))] [] _ _ _ _
      refine pm_e_sim pm_a162_20 rfl ?_
      show pm_E _ _ _ 21 [(0, .ref 18), (1, .int (iI x)), (2, .int (iI i))] [.ref 18] _ _ _ _
      refine pm_i_get pm_a162_21 rfl (mh_get (j := 0) hA rfl) rfl ?_
      show pm_E _ _ _ 24 [(0, .ref 18), (1, .int (iI x)), (2, .int (iI i))] [.ref 20] _ _ _ _
      refine pm_e_sim pm_a162_24 rfl ?_
      refine pm_e_top (y := iI 500) (by decide +kernel) ?_
      show pm_E _ _ _ 27 [(0, .ref 18), (1, .int (iI x)), (2, .int (iI i))] [.int (iI 500), .ref 20] _ _ _ _
      refine pm_e_sim pm_a162_27 rfl ?_
      show pm_E _ _ _ 28 [(0, .ref 18), (1, .int (iI x)), (2, .int (iI i))] [.int (iI x), .int (iI 500), .ref 20] _ _ _ _
      refine pm_e_sim pm_a162_28 rfl ?_
      refine pm_e_top (y := iI (500 * x)) (iI_mul _ _) ?_
      show pm_E _ _ _ 29 [(0, .ref 18), (1, .int (iI x)), (2, .int (iI i))] [.int (iI (500 * x)), .ref 20] _ _ _ _
      refine pm_e_sim pm_a162_29 rfl ?_
      show pm_E _ _ _ 30 [(0, .ref 18), (1, .int (iI x)), (2, .int (iI i))] [.int (iI i), .int (iI (500 * x)), .ref 20] _ _ _ _
      refine pm_e_sim pm_a162_30 rfl ?_
      refine pm_e_top (y := iI (500 * x + i)) (iI_add _ _) ?_
      show pm_E _ _ _ 31 [(0, .ref 18), (1, .int (iI x)), (2, .int (iI i))] [.int (iI (500 * x + i)), .ref 20] _ _ _ _
      refine pm_e_sim pm_a162_31 rfl ?_
      show pm_E _ _ _ 32 [(0, .ref 18), (1, .int (iI x)), (2, .int (iI i))] [.ref 18, .int (iI (500 * x + i)), .ref 20] _ _ _ _
      refine pm_i_get pm_a162_32 rfl (mh_get (j := 0) hA rfl) rfl ?_
      show pm_E _ _ _ 35 [(0, .ref 18), (1, .int (iI x)), (2, .int (iI i))] [.ref 22, .int (iI (500 * x + i)), .ref 20] _ _ _ _
      refine pm_e_sim pm_a162_35 rfl ?_
      show pm_E _ _ _ 36 [(0, .ref 18), (1, .int (iI x)), (2, .int (iI i))] [.int (iI i), .ref 22, .int (iI (500 * x + i)), .ref 20] _ _ _ _
      refine pm_i_ald pm_a162_36 (mh_get (j := 4) hA rfl) (by omega) (by omega) ⟨by omega, by omega⟩ ?_
      show pm_E _ _ _ 37 [(0, .ref 18), (1, .int (iI x)), (2, .int (iI i))] [.int (iI ((a 4) (i))), .int (iI (500 * x + i)), .ref 20] _ _ _ _
      refine pm_i_ast pm_a162_37 (mh_get (j := 2) hA rfl) (by omega) (by omega) ⟨by omega, by omega⟩ (ma_2 hA _) ?_
      show pm_E _ _ _ 38 [(0, .ref 18), (1, .int (iI x)), (2, .int (iI i))] [] _ _ _ _
      refine pm_e_inc (y := iI (i + 1)) pm_a162_38 rfl (iI_add _ _) (by decide +kernel) rfl ?_
      show pm_E _ _ _ 41 [(0, .ref 18), (1, .int (iI x)), (2, .int (iI (i + 1)))] [] _ _ _ _
      refine pm_e_goto pm_a162_41 rfl ?_
      show pm_E _ _ _ 12 [(0, .ref 18), (1, .int (iI x)), (2, .int (iI (i + 1)))] [] _ _ _ _
      refine ih (i + 1) _ (by omega) (by omega) (fun a' e => k a' ?_)
      rw [e]; funext j; by_cases hj : j = 2
      · subst hj; show cqI (updI (a 2) (500 * x + i) (a 4 i)) (a 4) (500 * x) (i + 1) (s 6) = cqI (a 2) (a 4) (500 * x) i (s 6); exact cqI_step (by omega)
      · simp [updA, hj]
set_option maxHeartbeats 4000000 in
set_option maxRecDepth 100000 in
theorem M_keep {d : Nat} {A B : List va_E} {s : Nat → Int} {vl : Int64} {a : Nat → Int → Int} {nm : Nat → Int64} {Q : Option Value → List va_E → Nat → Nat → Prop} {x : Int} (hA : A.length = 18) (hx0 : 0 ≤ x) (hx1 : x < 32) (hn0 : 0 ≤ s 6) (hn1 : s 6 ≤ 500) (k : ∀ a', a' = updA (updA a 1 (updI (a 1) x (s 6))) 2 (cqI (a 2) (a 4) (500 * x) 0 (s 6)) → Q none (mh A s vl a' nm B) 0 0) : pm_E none d pm_mm162 0 [(0, .ref 18), (1, .int (iI x))] [] (mh A s vl a nm B) 0 0 Q := by
  refine pm_e_sim pm_a162_0 rfl ?_
  show pm_E _ _ _ 1 [(0, .ref 18), (1, .int (iI x))] [.ref 18] _ _ _ _
  refine pm_i_get pm_a162_1 rfl (mh_get (j := 0) hA rfl) rfl ?_
  show pm_E _ _ _ 4 [(0, .ref 18), (1, .int (iI x))] [.ref 19] _ _ _ _
  refine pm_e_sim pm_a162_4 rfl ?_
  show pm_E _ _ _ 5 [(0, .ref 18), (1, .int (iI x))] [.int (iI x), .ref 19] _ _ _ _
  refine pm_e_sim pm_a162_5 rfl ?_
  show pm_E _ _ _ 6 [(0, .ref 18), (1, .int (iI x))] [.ref 18, .int (iI x), .ref 19] _ _ _ _
  refine pm_i_get pm_a162_6 rfl (mh_get (j := 0) hA rfl) rfl ?_
  show pm_E _ _ _ 9 [(0, .ref 18), (1, .int (iI x))] [.int (iI (s 6)), .int (iI x), .ref 19] _ _ _ _
  refine pm_i_ast pm_a162_9 (mh_get (j := 1) hA rfl) (by omega) (by omega) ⟨by omega, by omega⟩ (ma_1 hA _) ?_
  show pm_E _ _ _ 10 [(0, .ref 18), (1, .int (iI x))] [] _ _ _ _
  refine pm_e_sim pm_a162_10 rfl ?_
  refine pm_e_top (y := iI 0) (by decide +kernel) ?_
  show pm_E _ _ _ 11 [(0, .ref 18), (1, .int (iI x))] [.int (iI 0)] _ _ _ _
  refine pm_e_sim pm_a162_11 rfl ?_
  show pm_E _ _ _ 12 [(0, .ref 18), (1, .int (iI x)), (2, .int (iI 0))] [] _ _ _ _
  refine M_keep_l hA hx0 hx1 (by omega) (by omega) (s 6).toNat 0 _ (by omega) (by omega) (fun a' e => k a' ?_)
  rw [e]; rfl
