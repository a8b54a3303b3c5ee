/-! THE REFERENCE: infers, isFinite, lays, typed, type -/
set_option maxHeartbeats 4000000 in
set_option maxRecDepth 100000 in
theorem M_infers {d : Nat} {A B : List va_E} {s : Nat → Int} {vl : Int64} {a : Nat → Int → Int} {nm : Nat → Int64} {Q : Option Value → List va_E → Nat → Nat → Prop} {ff : Nat} (hA : A.length = 18) (h6 : 1 ≤ s 6) (h61 : s 6 ≤ 500) (hr : ∀ j, in32 (a 4 j)) (ht : tm (a 4) ff 0 0 (s 6)) (k : ∀ r s' a', 0 ≤ r → r < s' 32 → FI (a' 17) (a' 18) (a' 19) (s' 32) → s' 32 ≤ 6000 → (∀ j, j ≠ 32 → s' j = s j) → (∀ j, j ≠ 17 → j ≠ 18 → j ≠ 19 → j ≠ 20 → j ≠ 21 → j ≠ 24 → j ≠ 25 → j ≠ 26 → j ≠ 27 → j ≠ 5 → j ≠ 6 → a' j = a j) → Q (some (.int (iI r))) (mh A s' vl a' nm B) 0 0) : pm_E none (d + 3) pm_mm203 0 [(0, .ref 18)] [] (mh A s vl a nm B) 0 0 Q := by
  refine pm_e_sim pm_a203_0 rfl ?_
  show pm_E _ _ _ 1 [(0, .ref 18)] [.ref 18] _ _ _ _
  refine pm_e_sim pm_a203_1 rfl ?_
  refine pm_e_top (y := iI 0) (by decide +kernel) ?_
  show pm_E _ _ _ 2 [(0, .ref 18)] [.int (iI 0), .ref 18] _ _ _ _
  refine pm_i_put pm_a203_2 rfl (mh_get (j := 0) hA rfl) rfl (Nat.le_of_ble_eq_true rfl) (Or.inl rfl) (mw_32 hA _) ?_
  show pm_E _ _ _ 5 [(0, .ref 18)] [] _ _ _ _
  refine pm_e_sim pm_a203_5 rfl ?_
  show pm_E _ _ _ 6 [(0, .ref 18)] [.ref 18] _ _ _ _
  refine pm_i_callv (k := 18) (T2 := pm_mm204) pm_a203_6 rfl rfl rfl (mh_get (j := 0) hA rfl) ⟨Nat.le_of_ble_eq_true rfl, Nat.le_of_ble_eq_true rfl, rfl, by decide +kernel⟩ ?_
  show pm_E none _ _ 0 [(0, .ref 18)] [] _ _ _ _
  refine M_anyF (s := updS s 32 0) hA ⟨Int.le_refl 0, fun k z y => by exfalso; replace y : k < 0 := y; omega, fun _ => 0, 0, fun k z y => by exfalso; replace y : k < 0 := y; omega⟩ (show (0 : Int) < 9000 by omega) (fun s1 a1 hF1 eK1 gs1 ga1 => ?_)
  replace eK1 : s1 32 = 0 + 1 := eK1
  have e6 : s1 6 = s 6 := by rw [gs1 6 (by omega)]; rfl
  have e4 : a1 4 = a 4 := ga1 4 (by omega) (by omega) (by omega)
  show pm_E _ _ _ 9 [(0, .ref 18)] [.int (iI 0)] _ _ _ _
  refine pm_e_sim pm_a203_9 rfl ?_
  show pm_E _ _ _ 10 [(0, .ref 18), (1, .int (iI 0))] [] _ _ _ _
  refine pm_e_sim pm_a203_10 rfl ?_
  show pm_E _ _ _ 11 [(0, .ref 18), (1, .int (iI 0))] [.ref 18] _ _ _ _
  refine pm_e_sim pm_a203_11 rfl ?_
  refine pm_e_top (y := iI 0) (by decide +kernel) ?_
  show pm_E _ _ _ 12 [(0, .ref 18), (1, .int (iI 0))] [.int (iI 0), .ref 18] _ _ _ _
  refine pm_i_callv (k := 18) (T2 := pm_mm171) pm_a203_12 rfl rfl rfl (mh_get (j := 0) hA rfl) ⟨Nat.le_of_ble_eq_true rfl, Nat.le_of_ble_eq_true rfl, rfl, by decide +kernel⟩ ?_
  show pm_E none _ _ 0 [(0, .ref 18), (1, .int (iI 0))] [] _ _ _ _
  have t1 : tm (a1 4) ff 0 0 (s1 6) := by rw [e4, e6]; exact ht
  have hr1 : ∀ j, in32 (a1 4 j) := by rw [e4]; exact hr
  refine M_depT hA hr1 t1 (by omega) (by omega) (fun P D _ dD => ?_)
  show pm_E _ _ _ 15 [(0, .ref 18), (1, .int (iI 0))] [] _ _ _ _
  refine pm_e_sim pm_a203_15 rfl ?_
  refine pm_e_top (y := iI 0) (by decide +kernel) ?_
  show pm_E _ _ _ 16 [(0, .ref 18), (1, .int (iI 0))] [.int (iI 0)] _ _ _ _
  refine pm_e_sim pm_a203_16 rfl ?_
  show pm_E _ _ _ 17 [(0, .ref 18), (1, .int (iI 0)), (2, .int (iI 0))] [] _ _ _ _
  have hb1 := dp_in dD 0 (by omega) (by omega)
  refine M_infers_1 (s0 := s1) (a0 := updA (updA a1 5 D) 6 P) (x := 0) (ff := ff) hA (by omega) (by omega) hr1 t1 dD (s 6 + 1).toNat 0 s1 _ (by omega) (by omega) (fun j _ => rfl) (fun j _ _ _ _ _ _ _ _ _ => rfl) hF1 (by omega) (by omega) (fun q z y _ => by exfalso; replace y : q < D 0 := y; omega) (fun q z y => by omega) (fun q z y => by omega) ?_ (by omega)
  intro s2 a2 fS2 fA2 hF2 hx2 hk2 hlt2 hbi2 i2
  have e62 : s2 6 = s1 6 := fS2 6 (by omega)
  refine pm_e_sim pm_a203_106 rfl ?_
  refine pm_e_top (y := iI 0) (by decide +kernel) ?_
  show pm_E _ _ _ 107 [(0, .ref 18), (1, .int (iI 0)), (2, .int (iI i2))] [.int (iI 0)] _ _ _ _
  refine pm_e_sim pm_a203_107 rfl ?_
  show pm_E _ _ _ 108 [(0, .ref 18), (1, .int (iI 0)), (2, .int (iI 0))] [] _ _ _ _
  refine pm_e_sim pm_a203_108 rfl ?_
  show pm_E _ _ _ 109 [(0, .ref 18), (1, .int (iI 0)), (2, .int (iI 0))] [.ref 18] _ _ _ _
  refine pm_i_get pm_a203_109 rfl (mh_get (j := 0) hA rfl) rfl ?_
  show pm_E _ _ _ 112 [(0, .ref 18), (1, .int (iI 0)), (2, .int (iI 0))] [.int (iI (s2 6))] _ _ _ _
  refine pm_e_sim pm_a203_112 rfl ?_
  refine pm_e_top (y := iI 1) (by decide +kernel) ?_
  show pm_E _ _ _ 113 [(0, .ref 18), (1, .int (iI 0)), (2, .int (iI 0))] [.int (iI 1), .int (iI (s2 6))] _ _ _ _
  refine pm_e_sim pm_a203_113 rfl ?_
  refine pm_e_top (y := iI (s2 6 - 1)) (iI_sub _ _) ?_
  show pm_E _ _ _ 114 [(0, .ref 18), (1, .int (iI 0)), (2, .int (iI 0))] [.int (iI (s2 6 - 1))] _ _ _ _
  refine pm_e_sim pm_a203_114 rfl ?_
  show pm_E _ _ _ 115 [(0, .ref 18), (1, .int (iI 0)), (2, .int (iI 0)), (3, .int (iI (s2 6 - 1)))] [] _ _ _ _
  refine M_infers_2 (s0 := s1) (a0 := updA (updA a1 5 D) 6 P) (x := 0) (ff := ff) hA (by omega) (by omega) hr1 t1 dD ?_ (s 6 + 1).toNat (s2 6 - 1) 0 s2 a2 (by omega) (by omega) fS2 fA2 hF2 (by omega) (by omega) hlt2 hbi2 (fun q z y => by omega) ⟨0, rfl, show s2 6 - 1 + 1 = s1 6 by omega⟩ (by omega)
  intro r s3 a3 r0 r1 fS3 fA3 hF3 hk3
  refine k r s3 a3 r0 r1 hF3 hk3 (fun j h => by rw [fS3 j h, gs1 j h]; simp [updS, h]) (fun j q17 q18 q19 q20 q21 q24 q25 q26 q27 p5 p6 => by rw [fA3 j q17 q18 q19 q20 q21 q24 q25 q26 q27]; simp [updA, p5, p6, ga1 j q17 q18 q19])
def cn0 (B : Int → Int) : Nat → Int
  | 0 => 0
  | n + 1 => cn0 B n + (if B n = 0 then 1 else 0)
theorem cn0_le {B : Int → Int} : ∀ {n : Nat}, 0 ≤ cn0 B n ∧ cn0 B n ≤ n := by
  intro n
  induction n with
  | zero => exact ⟨Int.le_refl 0, Int.le_refl 0⟩
  | succ n ih =>
    show 0 ≤ cn0 B n + _ ∧ cn0 B n + _ ≤ _
    split <;> omega
theorem cn0_eq {B B' : Int → Int} : ∀ {n : Nat}, (∀ j, 0 ≤ j → j < (n : Int) → B' j = B j) → cn0 B' n = cn0 B n := by
  intro n
  induction n with
  | zero => intro _; rfl
  | succ n ih =>
    intro h
    show cn0 B' n + (if B' n = 0 then 1 else 0) = cn0 B n + (if B n = 0 then 1 else 0)
    rw [ih (fun j z y => h j z (by omega)), h n (by omega) (by omega)]
theorem cn0_up {B : Int → Int} {g y : Int} (hB : B g = 0) (hy : y ≠ 0) : ∀ {n : Nat}, 0 ≤ g → g < n → cn0 (updI B g y) n = cn0 B n - 1 := by
  intro n
  induction n with
  | zero => intro h0 h1; omega
  | succ n ih =>
    intro h0 h1
    show cn0 (updI B g y) n + (if updI B g y n = 0 then 1 else 0) = cn0 B n + (if B n = 0 then 1 else 0) - 1
    by_cases hq : g = n
    · subst hq
      rw [updI_s, if_neg hy, if_pos hB, cn0_eq (B := B) (fun j z y => updI_n _ _ (by omega))]
      omega
    · rw [ih h0 (by omega), updI_n _ _ (by omega)]
      omega
theorem cn0_dn {B : Int → Int} {g y : Int} (hy : y ≠ 0) : ∀ {n : Nat}, cn0 (updI B g y) n ≤ cn0 B n := by
  intro n
  induction n with
  | zero => exact Int.le_refl 0
  | succ n ih =>
    show cn0 (updI B g y) n + (if updI B g y n = 0 then 1 else 0) ≤ cn0 B n + (if B n = 0 then 1 else 0)
    by_cases hq : (n : Int) = g
    · rw [hq, updI_s, if_neg hy]
      split <;> omega
    · rw [updI_n _ _ hq]
      omega
set_option maxHeartbeats 4000000 in
set_option maxRecDepth 100000 in
theorem M_isFin_1 {d : Nat} {A B : List va_E} {vl : Int64} {nm : Nat → Int64} {Q : Option Value → List va_E → Nat → Nat → Prop} {s : Nat → Int} {a0 : Nat → Int → Int} (hA : A.length = 18) (hF : FI (a0 17) (a0 18) (a0 19) (s 32)) (hK : s 32 ≤ 6000) : ∀ (f : Nat) (i : Int) (a : Nat → Int → Int), 0 ≤ i → i ≤ s 32 → (∀ j, j ≠ 22 → j ≠ 23 → a j = a0 j) → (∀ j, 0 ≤ j → j < i → a 22 j = 0) → (∀ (a : Nat → Int → Int), (∀ j, j ≠ 22 → j ≠ 23 → a j = a0 j) → (∀ j, 0 ≤ j → j < s 32 → a 22 j = 0) → ∀ i', pm_E none (d + 1) pm_mm209 23 [(0, .ref 18), (1, .int (iI (i')))] [] (mh A s vl a nm B) 0 0 Q) → s 32 - i < (f : Int) → pm_E none (d + 1) pm_mm209 2 [(0, .ref 18), (1, .int (iI i))] [] (mh A s vl a nm B) 0 0 Q := by
  intro f
  induction f with
  | zero =>
    intro i a h0 h1 fA hm k hf
    exfalso; omega
  | succ f ih =>
    intro i a h0 h1 fA hm k hf
    have hK0 := hF.1
    refine pm_e_sim pm_a209_2 rfl ?_
    show pm_E _ _ _ 3 [(0, .ref 18), (1, .int (iI i))] [.int (iI i)] _ _ _ _
    refine pm_e_sim pm_a209_3 rfl ?_
    show pm_E _ _ _ 4 [(0, .ref 18), (1, .int (iI i))] [.ref 18, .int (iI i)] _ _ _ _
    refine pm_i_get pm_a209_4 rfl (mh_get (j := 0) hA rfl) rfl ?_
    show pm_E _ _ _ 7 [(0, .ref 18), (1, .int (iI i))] [.int (iI (s 32)), .int (iI i)] _ _ _ _
    refine pm_c_ge (t := 23) pm_a209_7 rfl ⟨by omega, by omega⟩ ⟨by omega, by omega⟩ (fun h_1 => ?_) (fun h_1 => ?_)
    · skip
      show pm_E _ _ _ 23 [(0, .ref 18), (1, .int (iI i))] [] _ _ _ _
      exact k a fA (fun j z y => hm j z (by omega)) _
    · skip
      show pm_E _ _ _ 10 [(0, .ref 18), (1, .int (iI i))] [] _ _ _ _
      refine pm_e_sim pm_a209_10 rfl ?_
      show pm_E _ _ _ 11 [(0, .ref 18), (1, .int (iI i))] [.ref 18] _ _ _ _
      refine pm_i_get pm_a209_11 rfl (mh_get (j := 0) hA rfl) rfl ?_
      show pm_E _ _ _ 14 [(0, .ref 18), (1, .int (iI i))] [.ref 40] _ _ _ _
      refine pm_e_sim pm_a209_14 rfl ?_
      show pm_E _ _ _ 15 [(0, .ref 18), (1, .int (iI i))] [.int (iI i), .ref 40] _ _ _ _
      refine pm_e_sim pm_a209_15 rfl ?_
      refine pm_e_top (y := iI 0) (by decide +kernel) ?_
      show pm_E _ _ _ 16 [(0, .ref 18), (1, .int (iI i))] [.int (iI 0), .int (iI i), .ref 40] _ _ _ _
      refine pm_i_ast pm_a209_16 (mh_get (j := 22) hA rfl) (by omega) (by omega) ⟨by omega, by omega⟩ (ma_22 hA _) ?_
      show pm_E _ _ _ 17 [(0, .ref 18), (1, .int (iI i))] [] _ _ _ _
      refine pm_e_inc (y := iI (i + 1)) pm_a209_17 rfl (iI_add _ _) (by decide +kernel) rfl ?_
      show pm_E _ _ _ 20 [(0, .ref 18), (1, .int (iI (i + 1)))] [] _ _ _ _
      refine pm_e_goto pm_a209_20 rfl ?_
      show pm_E _ _ _ 2 [(0, .ref 18), (1, .int (iI (i + 1)))] [] _ _ _ _
      refine ih (i + 1) _ (by omega) (by omega) (fun j h1 h2 => by simp [updA, h1, fA j h1 h2]) (fun j z y => ?_) k (by omega)
      show updI (a 22) i 0 j = 0
      by_cases hj : j = i
      · rw [hj, updI_s]
      · rw [updI_n _ _ hj]; exact hm j z (by omega)
set_option maxHeartbeats 4000000 in
set_option maxRecDepth 100000 in
theorem M_isFin_2 {d : Nat} {A B : List va_E} {vl : Int64} {nm : Nat → Int64} {Q : Option Value → List va_E → Nat → Nat → Prop} {s : Nat → Int} {a0 : Nat → Int → Int} {i : Int} (hA : A.length = 18) (hF : FI (a0 17) (a0 18) (a0 19) (s 32)) (hK : s 32 ≤ 6000) : ∀ (f : Nat) (w : Int) (a : Nat → Int → Int), 0 ≤ w → (∀ j, j ≠ 22 → j ≠ 23 → a j = a0 j) → (∀ j, 0 ≤ j → j < s 32 → 0 ≤ a 22 j ∧ a 22 j ≤ 2) → (∀ j, 0 ≤ j → j < w → 0 ≤ a 23 j ∧ a 23 j < s 32) → w + cn0 (a 22) (s 32).toNat ≤ s 32 → (∀ (a : Nat → Int → Int), (∀ j, j ≠ 22 → j ≠ 23 → a j = a0 j) → (∀ j, 0 ≤ j → j < s 32 → 0 ≤ a 22 j ∧ a 22 j ≤ 2) → ∀ w', pm_E none (d + 1) pm_mm209 247 [(0, .ref 18), (1, .int (iI i)), (2, .int (iI (w')))] [] (mh A s vl a nm B) 0 0 Q) → (∀ (a : Nat → Int → Int), (∀ j, j ≠ 22 → j ≠ 23 → a j = a0 j) → Q (some (.int (iI 0))) (mh A s vl a nm B) 0 0) → 2 * cn0 (a 22) (s 32).toNat + w < (f : Int) → pm_E none (d + 1) pm_mm209 73 [(0, .ref 18), (1, .int (iI i)), (2, .int (iI w))] [] (mh A s vl a nm B) 0 0 Q := by
  intro f
  induction f with
  | zero =>
    intro w a h0 fA hmk hpt hwc k kf hf
    have hc9 := cn0_le (B := a 22) (n := (s 32).toNat)
    exfalso; omega
  | succ f ih =>
    intro w a h0 fA hmk hpt hwc k kf hf
    have hK0 := hF.1
    have e17 : a 17 = a0 17 := fA 17 (by omega) (by omega)
    have e18 : a 18 = a0 18 := fA 18 (by omega) (by omega)
    have e19 : a 19 = a0 19 := fA 19 (by omega) (by omega)
    have hFa : FI (a 17) (a 18) (a 19) (s 32) := by rw [e17, e18, e19]; exact hF
    have hc9 := cn0_le (B := a 22) (n := (s 32).toNat)
    refine pm_e_sim pm_a209_73 rfl ?_
    show pm_E _ _ _ 74 [(0, .ref 18), (1, .int (iI i)), (2, .int (iI w))] [.int (iI w)] _ _ _ _
    refine pm_i_le (t := 247) pm_a209_74 rfl ⟨by omega, by omega⟩ (fun h_1 => ?_) (fun h_1 => ?_)
    · skip
      show pm_E _ _ _ 247 [(0, .ref 18), (1, .int (iI i)), (2, .int (iI w))] [] _ _ _ _
      exact k a fA hmk _
    · skip
      show pm_E _ _ _ 77 [(0, .ref 18), (1, .int (iI i)), (2, .int (iI w))] [] _ _ _ _
      refine pm_e_sim pm_a209_77 rfl ?_
      show pm_E _ _ _ 78 [(0, .ref 18), (1, .int (iI i)), (2, .int (iI w))] [.ref 18] _ _ _ _
      refine pm_i_get pm_a209_78 rfl (mh_get (j := 0) hA rfl) rfl ?_
      show pm_E _ _ _ 81 [(0, .ref 18), (1, .int (iI i)), (2, .int (iI w))] [.ref 41] _ _ _ _
      refine pm_e_sim pm_a209_81 rfl ?_
      show pm_E _ _ _ 82 [(0, .ref 18), (1, .int (iI i)), (2, .int (iI w))] [.int (iI w), .ref 41] _ _ _ _
      refine pm_e_sim pm_a209_82 rfl ?_
      refine pm_e_top (y := iI 1) (by decide +kernel) ?_
      show pm_E _ _ _ 83 [(0, .ref 18), (1, .int (iI i)), (2, .int (iI w))] [.int (iI 1), .int (iI w), .ref 41] _ _ _ _
      refine pm_e_sim pm_a209_83 rfl ?_
      refine pm_e_top (y := iI (w - 1)) (iI_sub _ _) ?_
      show pm_E _ _ _ 84 [(0, .ref 18), (1, .int (iI i)), (2, .int (iI w))] [.int (iI (w - 1)), .ref 41] _ _ _ _
      have hp1 := hpt (w - 1) (by omega) (by omega)
      have hl1 := (hFa.2.1 (a 23 (w - 1)) (by omega) (by omega)).2
      refine pm_i_ald pm_a209_84 (mh_get (j := 23) hA rfl) (by omega) (by omega) ⟨by omega, by omega⟩ ?_
      show pm_E _ _ _ 85 [(0, .ref 18), (1, .int (iI i)), (2, .int (iI w))] [.int (iI ((a 23) (w - 1)))] _ _ _ _
      refine pm_e_sim pm_a209_85 rfl ?_
      show pm_E _ _ _ 86 [(0, .ref 18), (1, .int (iI i)), (2, .int (iI w)), (3, .int (iI ((a 23) (w - 1))))] [] _ _ _ _
      refine pm_e_sim pm_a209_86 rfl ?_
      show pm_E _ _ _ 87 [(0, .ref 18), (1, .int (iI i)), (2, .int (iI w)), (3, .int (iI ((a 23) (w - 1))))] [.ref 18] _ _ _ _
      refine pm_i_get pm_a209_87 rfl (mh_get (j := 0) hA rfl) rfl ?_
      show pm_E _ _ _ 90 [(0, .ref 18), (1, .int (iI i)), (2, .int (iI w)), (3, .int (iI ((a 23) (w - 1))))] [.ref 36] _ _ _ _
      refine pm_e_sim pm_a209_90 rfl ?_
      show pm_E _ _ _ 91 [(0, .ref 18), (1, .int (iI i)), (2, .int (iI w)), (3, .int (iI ((a 23) (w - 1))))] [.int (iI ((a 23) (w - 1))), .ref 36] _ _ _ _
      refine pm_i_ald pm_a209_91 (mh_get (j := 18) hA rfl) (by omega) (by omega) ⟨by omega, by omega⟩ ?_
      show pm_E _ _ _ 92 [(0, .ref 18), (1, .int (iI i)), (2, .int (iI w)), (3, .int (iI ((a 23) (w - 1))))] [.int (iI ((a 18) ((a 23) (w - 1))))] _ _ _ _
      refine pm_e_sim pm_a209_92 rfl ?_
      refine pm_e_top (y := iI (-4)) (by decide +kernel) ?_
      show pm_E _ _ _ 94 [(0, .ref 18), (1, .int (iI i)), (2, .int (iI w)), (3, .int (iI ((a 23) (w - 1))))] [.int (iI (-4)), .int (iI ((a 18) ((a 23) (w - 1))))] _ _ _ _
      refine pm_c_ne (t := 102) pm_a209_94 rfl ⟨by omega, by omega⟩ ⟨by omega, by omega⟩ (fun h_2 => ?_) (fun h_2 => ?_)
      · skip
        show pm_E _ _ _ 102 [(0, .ref 18), (1, .int (iI i)), (2, .int (iI w)), (3, .int (iI ((a 23) (w - 1))))] [] _ _ _ _
        refine pm_e_sim pm_a209_102 rfl ?_
        show pm_E _ _ _ 103 [(0, .ref 18), (1, .int (iI i)), (2, .int (iI w)), (3, .int (iI ((a 23) (w - 1))))] [.ref 18] _ _ _ _
        refine pm_e_sim pm_a209_103 rfl ?_
        show pm_E _ _ _ 104 [(0, .ref 18), (1, .int (iI i)), (2, .int (iI w)), (3, .int (iI ((a 23) (w - 1))))] [.ref 18, .ref 18] _ _ _ _
        refine pm_i_get pm_a209_104 rfl (mh_get (j := 0) hA rfl) rfl ?_
        show pm_E _ _ _ 107 [(0, .ref 18), (1, .int (iI i)), (2, .int (iI w)), (3, .int (iI ((a 23) (w - 1))))] [.ref 36, .ref 18] _ _ _ _
        refine pm_e_sim pm_a209_107 rfl ?_
        show pm_E _ _ _ 108 [(0, .ref 18), (1, .int (iI i)), (2, .int (iI w)), (3, .int (iI ((a 23) (w - 1))))] [.int (iI ((a 23) (w - 1))), .ref 36, .ref 18] _ _ _ _
        refine pm_i_ald pm_a209_108 (mh_get (j := 18) hA rfl) (by omega) (by omega) ⟨by omega, by omega⟩ ?_
        show pm_E _ _ _ 109 [(0, .ref 18), (1, .int (iI i)), (2, .int (iI w)), (3, .int (iI ((a 23) (w - 1))))] [.int (iI ((a 18) ((a 23) (w - 1)))), .ref 18] _ _ _ _
        refine pm_i_callv (k := 18) (T2 := pm_mm207) pm_a209_109 rfl rfl rfl (mh_get (j := 0) hA rfl) ⟨Nat.le_of_ble_eq_true rfl, Nat.le_of_ble_eq_true rfl, rfl, by decide +kernel⟩ ?_
        show pm_E none _ _ 0 [(0, .ref 18), (1, .int (iI ((a 18) ((a 23) (w - 1)))))] [] _ _ _ _
        refine M_root hA hFa (by omega) (by omega) (by omega) (fun r1 p1 q1 z1 => ?_)
        have m1 := hmk r1 p1 q1
        show pm_E _ _ _ 112 [(0, .ref 18), (1, .int (iI i)), (2, .int (iI w)), (3, .int (iI ((a 23) (w - 1))))] [.int (iI r1)] _ _ _ _
        refine pm_e_sim pm_a209_112 rfl ?_
        show pm_E _ _ _ 114 [(0, .ref 18), (1, .int (iI i)), (2, .int (iI w)), (3, .int (iI ((a 23) (w - 1)))), (4, .int (iI r1))] [] _ _ _ _
        refine pm_e_sim pm_a209_114 rfl ?_
        show pm_E _ _ _ 115 [(0, .ref 18), (1, .int (iI i)), (2, .int (iI w)), (3, .int (iI ((a 23) (w - 1)))), (4, .int (iI r1))] [.ref 18] _ _ _ _
        refine pm_i_get pm_a209_115 rfl (mh_get (j := 0) hA rfl) rfl ?_
        show pm_E _ _ _ 118 [(0, .ref 18), (1, .int (iI i)), (2, .int (iI w)), (3, .int (iI ((a 23) (w - 1)))), (4, .int (iI r1))] [.ref 36] _ _ _ _
        refine pm_e_sim pm_a209_118 rfl ?_
        show pm_E _ _ _ 119 [(0, .ref 18), (1, .int (iI i)), (2, .int (iI w)), (3, .int (iI ((a 23) (w - 1)))), (4, .int (iI r1))] [.int (iI ((a 23) (w - 1))), .ref 36] _ _ _ _
        refine pm_i_ald pm_a209_119 (mh_get (j := 18) hA rfl) (by omega) (by omega) ⟨by omega, by omega⟩ ?_
        show pm_E _ _ _ 120 [(0, .ref 18), (1, .int (iI i)), (2, .int (iI w)), (3, .int (iI ((a 23) (w - 1)))), (4, .int (iI r1))] [.int (iI ((a 18) ((a 23) (w - 1))))] _ _ _ _
        refine pm_e_sim pm_a209_120 rfl ?_
        refine pm_e_top (y := iI (-4)) (by decide +kernel) ?_
        show pm_E _ _ _ 122 [(0, .ref 18), (1, .int (iI i)), (2, .int (iI w)), (3, .int (iI ((a 23) (w - 1)))), (4, .int (iI r1))] [.int (iI (-4)), .int (iI ((a 18) ((a 23) (w - 1))))] _ _ _ _
        refine pm_c_ne (t := 130) pm_a209_122 rfl ⟨by omega, by omega⟩ ⟨by omega, by omega⟩ (fun h_3 => ?_) (fun h_3 => ?_)
        · skip
          show pm_E _ _ _ 130 [(0, .ref 18), (1, .int (iI i)), (2, .int (iI w)), (3, .int (iI ((a 23) (w - 1)))), (4, .int (iI r1))] [] _ _ _ _
          refine pm_e_sim pm_a209_130 rfl ?_
          show pm_E _ _ _ 131 [(0, .ref 18), (1, .int (iI i)), (2, .int (iI w)), (3, .int (iI ((a 23) (w - 1)))), (4, .int (iI r1))] [.ref 18] _ _ _ _
          refine pm_e_sim pm_a209_131 rfl ?_
          show pm_E _ _ _ 132 [(0, .ref 18), (1, .int (iI i)), (2, .int (iI w)), (3, .int (iI ((a 23) (w - 1)))), (4, .int (iI r1))] [.ref 18, .ref 18] _ _ _ _
          refine pm_i_get pm_a209_132 rfl (mh_get (j := 0) hA rfl) rfl ?_
          show pm_E _ _ _ 135 [(0, .ref 18), (1, .int (iI i)), (2, .int (iI w)), (3, .int (iI ((a 23) (w - 1)))), (4, .int (iI r1))] [.ref 37, .ref 18] _ _ _ _
          refine pm_e_sim pm_a209_135 rfl ?_
          show pm_E _ _ _ 136 [(0, .ref 18), (1, .int (iI i)), (2, .int (iI w)), (3, .int (iI ((a 23) (w - 1)))), (4, .int (iI r1))] [.int (iI ((a 23) (w - 1))), .ref 37, .ref 18] _ _ _ _
          refine pm_i_ald pm_a209_136 (mh_get (j := 19) hA rfl) (by omega) (by omega) ⟨by omega, by omega⟩ ?_
          show pm_E _ _ _ 137 [(0, .ref 18), (1, .int (iI i)), (2, .int (iI w)), (3, .int (iI ((a 23) (w - 1)))), (4, .int (iI r1))] [.int (iI ((a 19) ((a 23) (w - 1)))), .ref 18] _ _ _ _
          refine pm_i_callv (k := 18) (T2 := pm_mm207) pm_a209_137 rfl rfl rfl (mh_get (j := 0) hA rfl) ⟨Nat.le_of_ble_eq_true rfl, Nat.le_of_ble_eq_true rfl, rfl, by decide +kernel⟩ ?_
          show pm_E none _ _ 0 [(0, .ref 18), (1, .int (iI ((a 19) ((a 23) (w - 1)))))] [] _ _ _ _
          refine M_root hA hFa (by omega) (by omega) (by omega) (fun r2 p2 q2 z2 => ?_)
          have m2 := hmk r2 p2 q2
          show pm_E _ _ _ 140 [(0, .ref 18), (1, .int (iI i)), (2, .int (iI w)), (3, .int (iI ((a 23) (w - 1)))), (4, .int (iI r1))] [.int (iI r2)] _ _ _ _
          refine pm_e_sim pm_a209_140 rfl ?_
          show pm_E _ _ _ 142 [(0, .ref 18), (1, .int (iI i)), (2, .int (iI w)), (3, .int (iI ((a 23) (w - 1)))), (4, .int (iI r1)), (5, .int (iI r2))] [] _ _ _ _
          refine pm_e_sim pm_a209_142 rfl ?_
          show pm_E _ _ _ 144 [(0, .ref 18), (1, .int (iI i)), (2, .int (iI w)), (3, .int (iI ((a 23) (w - 1)))), (4, .int (iI r1)), (5, .int (iI r2))] [.int (iI r1)] _ _ _ _
          refine pm_e_sim pm_a209_144 rfl ?_
          refine pm_e_top (y := iI (-4)) (by decide +kernel) ?_
          show pm_E _ _ _ 146 [(0, .ref 18), (1, .int (iI i)), (2, .int (iI w)), (3, .int (iI ((a 23) (w - 1)))), (4, .int (iI r1)), (5, .int (iI r2))] [.int (iI (-4)), .int (iI r1)] _ _ _ _
          refine pm_c_eq (t := 165) pm_a209_146 rfl ⟨by omega, by omega⟩ ⟨by omega, by omega⟩ (fun h_4 => ?_) (fun h_4 => ?_)
          · skip
            show pm_E _ _ _ 165 [(0, .ref 18), (1, .int (iI i)), (2, .int (iI w)), (3, .int (iI ((a 23) (w - 1)))), (4, .int (iI r1)), (5, .int (iI r2))] [] _ _ _ _
            refine pm_e_sim pm_a209_165 rfl ?_
            show pm_E _ _ _ 167 [(0, .ref 18), (1, .int (iI i)), (2, .int (iI w)), (3, .int (iI ((a 23) (w - 1)))), (4, .int (iI r1)), (5, .int (iI r2))] [.int (iI r2)] _ _ _ _
            refine pm_e_sim pm_a209_167 rfl ?_
            refine pm_e_top (y := iI (-4)) (by decide +kernel) ?_
            show pm_E _ _ _ 169 [(0, .ref 18), (1, .int (iI i)), (2, .int (iI w)), (3, .int (iI ((a 23) (w - 1)))), (4, .int (iI r1)), (5, .int (iI r2))] [.int (iI (-4)), .int (iI r2)] _ _ _ _
            refine pm_c_eq (t := 188) pm_a209_169 rfl ⟨by omega, by omega⟩ ⟨by omega, by omega⟩ (fun h_5 => ?_) (fun h_5 => ?_)
            · skip
              show pm_E _ _ _ 188 [(0, .ref 18), (1, .int (iI i)), (2, .int (iI w)), (3, .int (iI ((a 23) (w - 1)))), (4, .int (iI r1)), (5, .int (iI r2))] [] _ _ _ _
              refine pm_e_sim pm_a209_188 rfl ?_
              refine pm_e_top (y := iI (-4)) (by decide +kernel) ?_
              show pm_E _ _ _ 190 [(0, .ref 18), (1, .int (iI i)), (2, .int (iI w)), (3, .int (iI ((a 23) (w - 1)))), (4, .int (iI r1)), (5, .int (iI r2))] [.int (iI (-4))] _ _ _ _
              refine pm_e_sim pm_a209_190 rfl ?_
              show pm_E _ _ _ 192 [(0, .ref 18), (1, .int (iI i)), (2, .int (iI w)), (3, .int (iI ((a 23) (w - 1)))), (4, .int (iI r1)), (5, .int (iI r2)), (6, .int (iI (-4)))] [] _ _ _ _
              refine pm_e_sim pm_a209_192 rfl ?_
              show pm_E _ _ _ 194 [(0, .ref 18), (1, .int (iI i)), (2, .int (iI w)), (3, .int (iI ((a 23) (w - 1)))), (4, .int (iI r1)), (5, .int (iI r2)), (6, .int (iI (-4)))] [.int (iI (-4))] _ _ _ _
              refine pm_e_sim pm_a209_194 rfl ?_
              refine pm_e_top (y := iI (-4)) (by decide +kernel) ?_
              show pm_E _ _ _ 196 [(0, .ref 18), (1, .int (iI i)), (2, .int (iI w)), (3, .int (iI ((a 23) (w - 1)))), (4, .int (iI r1)), (5, .int (iI r2)), (6, .int (iI (-4)))] [.int (iI (-4)), .int (iI (-4))] _ _ _ _
              refine pm_e_icf pm_a209_196 rfl (by decide +kernel) ?_
              show pm_E _ _ _ 199 [(0, .ref 18), (1, .int (iI i)), (2, .int (iI w)), (3, .int (iI ((a 23) (w - 1)))), (4, .int (iI r1)), (5, .int (iI r2)), (6, .int (iI (-4)))] [] _ _ _ _
              refine pm_e_sim pm_a209_199 rfl ?_
              show pm_E _ _ _ 200 [(0, .ref 18), (1, .int (iI i)), (2, .int (iI w)), (3, .int (iI ((a 23) (w - 1)))), (4, .int (iI r1)), (5, .int (iI r2)), (6, .int (iI (-4)))] [.ref 18] _ _ _ _
              refine pm_i_get pm_a209_200 rfl (mh_get (j := 0) hA rfl) rfl ?_
              show pm_E _ _ _ 203 [(0, .ref 18), (1, .int (iI i)), (2, .int (iI w)), (3, .int (iI ((a 23) (w - 1)))), (4, .int (iI r1)), (5, .int (iI r2)), (6, .int (iI (-4)))] [.ref 40] _ _ _ _
              refine pm_e_sim pm_a209_203 rfl ?_
              show pm_E _ _ _ 204 [(0, .ref 18), (1, .int (iI i)), (2, .int (iI w)), (3, .int (iI ((a 23) (w - 1)))), (4, .int (iI r1)), (5, .int (iI r2)), (6, .int (iI (-4)))] [.int (iI ((a 23) (w - 1))), .ref 40] _ _ _ _
              refine pm_e_sim pm_a209_204 rfl ?_
              refine pm_e_top (y := iI 2) (by decide +kernel) ?_
              show pm_E _ _ _ 205 [(0, .ref 18), (1, .int (iI i)), (2, .int (iI w)), (3, .int (iI ((a 23) (w - 1)))), (4, .int (iI r1)), (5, .int (iI r2)), (6, .int (iI (-4)))] [.int (iI 2), .int (iI ((a 23) (w - 1))), .ref 40] _ _ _ _
              refine pm_i_ast pm_a209_205 (mh_get (j := 22) hA rfl) (by omega) (by omega) ⟨by omega, by omega⟩ (ma_22 hA _) ?_
              show pm_E _ _ _ 206 [(0, .ref 18), (1, .int (iI i)), (2, .int (iI w)), (3, .int (iI ((a 23) (w - 1)))), (4, .int (iI r1)), (5, .int (iI r2)), (6, .int (iI (-4)))] [] _ _ _ _
              refine pm_e_inc (y := iI (w + (-1))) pm_a209_206 rfl (iI_add _ _) (by decide +kernel) rfl ?_
              show pm_E _ _ _ 209 [(0, .ref 18), (1, .int (iI i)), (2, .int (iI (w + (-1)))), (3, .int (iI ((a 23) (w - 1)))), (4, .int (iI r1)), (5, .int (iI r2)), (6, .int (iI (-4)))] [] _ _ _ _
              refine pm_e_goto pm_a209_209 rfl ?_
              show pm_E _ _ _ 244 [(0, .ref 18), (1, .int (iI i)), (2, .int (iI (w + (-1)))), (3, .int (iI ((a 23) (w - 1)))), (4, .int (iI r1)), (5, .int (iI r2)), (6, .int (iI (-4)))] [] _ _ _ _
              refine pm_e_goto pm_a209_244 rfl ?_
              show pm_E _ _ _ 73 [(0, .ref 18), (1, .int (iI i)), (2, .int (iI (w + (-1)))), (3, .int (iI ((a 23) (w - 1)))), (4, .int (iI r1)), (5, .int (iI r2)), (6, .int (iI (-4)))] [] _ _ _ _
              show pm_E _ _ _ 73 ([(0, .ref 18), (1, .int (iI i)), (2, .int (iI (w + (-1))))] ++ [(3, .int (iI ((a 23) (w - 1)))), (4, .int (iI r1)), (5, .int (iI r2)), (6, .int (iI (-4)))]) [] _ _ _ _
              refine pm_e_more [(3, .int (iI ((a 23) (w - 1)))), (4, .int (iI r1)), (5, .int (iI r2)), (6, .int (iI (-4)))] (show ([0, 1, 2, 3, 4, 5, 6] : List Nat).Nodup from by decide) ?_
              have h9 := cn0_dn (B := a 22) (g := (a 23) (w - 1)) (y := 2) (by omega) (n := (s 32).toNat)
              refine ih (w + -1) _ (by omega) (fun j h1 h2 => by simp [updA, h1, fA j h1 h2]) (fun j z y => ?_) (fun j z y => hpt j z (by omega)) ?_ k kf ?_
              · show 0 ≤ updI (a 22) _ 2 j ∧ updI (a 22) _ 2 j ≤ 2; have := hmk j z y; unfold updI; split <;> omega
              · show w + -1 + cn0 (updI (a 22) ((a 23) (w - 1)) 2) _ ≤ _; omega
              · show 2 * cn0 (updI (a 22) ((a 23) (w - 1)) 2) _ + (w + -1) < _; omega
            · skip
              show pm_E _ _ _ 172 [(0, .ref 18), (1, .int (iI i)), (2, .int (iI w)), (3, .int (iI ((a 23) (w - 1)))), (4, .int (iI r1)), (5, .int (iI r2))] [] _ _ _ _
              refine pm_e_sim pm_a209_172 rfl ?_
              show pm_E _ _ _ 173 [(0, .ref 18), (1, .int (iI i)), (2, .int (iI w)), (3, .int (iI ((a 23) (w - 1)))), (4, .int (iI r1)), (5, .int (iI r2))] [.ref 18] _ _ _ _
              refine pm_i_get pm_a209_173 rfl (mh_get (j := 0) hA rfl) rfl ?_
              show pm_E _ _ _ 176 [(0, .ref 18), (1, .int (iI i)), (2, .int (iI w)), (3, .int (iI ((a 23) (w - 1)))), (4, .int (iI r1)), (5, .int (iI r2))] [.ref 40] _ _ _ _
              refine pm_e_sim pm_a209_176 rfl ?_
              show pm_E _ _ _ 178 [(0, .ref 18), (1, .int (iI i)), (2, .int (iI w)), (3, .int (iI ((a 23) (w - 1)))), (4, .int (iI r1)), (5, .int (iI r2))] [.int (iI r2), .ref 40] _ _ _ _
              refine pm_i_ald pm_a209_178 (mh_get (j := 22) hA rfl) (by omega) (by omega) ⟨by omega, by omega⟩ ?_
              show pm_E _ _ _ 179 [(0, .ref 18), (1, .int (iI i)), (2, .int (iI w)), (3, .int (iI ((a 23) (w - 1)))), (4, .int (iI r1)), (5, .int (iI r2))] [.int (iI ((a 22) (r2)))] _ _ _ _
              refine pm_e_sim pm_a209_179 rfl ?_
              refine pm_e_top (y := iI 2) (by decide +kernel) ?_
              show pm_E _ _ _ 180 [(0, .ref 18), (1, .int (iI i)), (2, .int (iI w)), (3, .int (iI ((a 23) (w - 1)))), (4, .int (iI r1)), (5, .int (iI r2))] [.int (iI 2), .int (iI ((a 22) (r2)))] _ _ _ _
              refine pm_c_ge (t := 188) pm_a209_180 rfl ⟨by omega, by omega⟩ ⟨by omega, by omega⟩ (fun h_6 => ?_) (fun h_6 => ?_)
              · skip
                show pm_E _ _ _ 188 [(0, .ref 18), (1, .int (iI i)), (2, .int (iI w)), (3, .int (iI ((a 23) (w - 1)))), (4, .int (iI r1)), (5, .int (iI r2))] [] _ _ _ _
                refine pm_e_sim pm_a209_188 rfl ?_
                refine pm_e_top (y := iI (-4)) (by decide +kernel) ?_
                show pm_E _ _ _ 190 [(0, .ref 18), (1, .int (iI i)), (2, .int (iI w)), (3, .int (iI ((a 23) (w - 1)))), (4, .int (iI r1)), (5, .int (iI r2))] [.int (iI (-4))] _ _ _ _
                refine pm_e_sim pm_a209_190 rfl ?_
                show pm_E _ _ _ 192 [(0, .ref 18), (1, .int (iI i)), (2, .int (iI w)), (3, .int (iI ((a 23) (w - 1)))), (4, .int (iI r1)), (5, .int (iI r2)), (6, .int (iI (-4)))] [] _ _ _ _
                refine pm_e_sim pm_a209_192 rfl ?_
                show pm_E _ _ _ 194 [(0, .ref 18), (1, .int (iI i)), (2, .int (iI w)), (3, .int (iI ((a 23) (w - 1)))), (4, .int (iI r1)), (5, .int (iI r2)), (6, .int (iI (-4)))] [.int (iI (-4))] _ _ _ _
                refine pm_e_sim pm_a209_194 rfl ?_
                refine pm_e_top (y := iI (-4)) (by decide +kernel) ?_
                show pm_E _ _ _ 196 [(0, .ref 18), (1, .int (iI i)), (2, .int (iI w)), (3, .int (iI ((a 23) (w - 1)))), (4, .int (iI r1)), (5, .int (iI r2)), (6, .int (iI (-4)))] [.int (iI (-4)), .int (iI (-4))] _ _ _ _
                refine pm_e_icf pm_a209_196 rfl (by decide +kernel) ?_
                show pm_E _ _ _ 199 [(0, .ref 18), (1, .int (iI i)), (2, .int (iI w)), (3, .int (iI ((a 23) (w - 1)))), (4, .int (iI r1)), (5, .int (iI r2)), (6, .int (iI (-4)))] [] _ _ _ _
                refine pm_e_sim pm_a209_199 rfl ?_
                show pm_E _ _ _ 200 [(0, .ref 18), (1, .int (iI i)), (2, .int (iI w)), (3, .int (iI ((a 23) (w - 1)))), (4, .int (iI r1)), (5, .int (iI r2)), (6, .int (iI (-4)))] [.ref 18] _ _ _ _
                refine pm_i_get pm_a209_200 rfl (mh_get (j := 0) hA rfl) rfl ?_
                show pm_E _ _ _ 203 [(0, .ref 18), (1, .int (iI i)), (2, .int (iI w)), (3, .int (iI ((a 23) (w - 1)))), (4, .int (iI r1)), (5, .int (iI r2)), (6, .int (iI (-4)))] [.ref 40] _ _ _ _
                refine pm_e_sim pm_a209_203 rfl ?_
                show pm_E _ _ _ 204 [(0, .ref 18), (1, .int (iI i)), (2, .int (iI w)), (3, .int (iI ((a 23) (w - 1)))), (4, .int (iI r1)), (5, .int (iI r2)), (6, .int (iI (-4)))] [.int (iI ((a 23) (w - 1))), .ref 40] _ _ _ _
                refine pm_e_sim pm_a209_204 rfl ?_
                refine pm_e_top (y := iI 2) (by decide +kernel) ?_
                show pm_E _ _ _ 205 [(0, .ref 18), (1, .int (iI i)), (2, .int (iI w)), (3, .int (iI ((a 23) (w - 1)))), (4, .int (iI r1)), (5, .int (iI r2)), (6, .int (iI (-4)))] [.int (iI 2), .int (iI ((a 23) (w - 1))), .ref 40] _ _ _ _
                refine pm_i_ast pm_a209_205 (mh_get (j := 22) hA rfl) (by omega) (by omega) ⟨by omega, by omega⟩ (ma_22 hA _) ?_
                show pm_E _ _ _ 206 [(0, .ref 18), (1, .int (iI i)), (2, .int (iI w)), (3, .int (iI ((a 23) (w - 1)))), (4, .int (iI r1)), (5, .int (iI r2)), (6, .int (iI (-4)))] [] _ _ _ _
                refine pm_e_inc (y := iI (w + (-1))) pm_a209_206 rfl (iI_add _ _) (by decide +kernel) rfl ?_
                show pm_E _ _ _ 209 [(0, .ref 18), (1, .int (iI i)), (2, .int (iI (w + (-1)))), (3, .int (iI ((a 23) (w - 1)))), (4, .int (iI r1)), (5, .int (iI r2)), (6, .int (iI (-4)))] [] _ _ _ _
                refine pm_e_goto pm_a209_209 rfl ?_
                show pm_E _ _ _ 244 [(0, .ref 18), (1, .int (iI i)), (2, .int (iI (w + (-1)))), (3, .int (iI ((a 23) (w - 1)))), (4, .int (iI r1)), (5, .int (iI r2)), (6, .int (iI (-4)))] [] _ _ _ _
                refine pm_e_goto pm_a209_244 rfl ?_
                show pm_E _ _ _ 73 [(0, .ref 18), (1, .int (iI i)), (2, .int (iI (w + (-1)))), (3, .int (iI ((a 23) (w - 1)))), (4, .int (iI r1)), (5, .int (iI r2)), (6, .int (iI (-4)))] [] _ _ _ _
                show pm_E _ _ _ 73 ([(0, .ref 18), (1, .int (iI i)), (2, .int (iI (w + (-1))))] ++ [(3, .int (iI ((a 23) (w - 1)))), (4, .int (iI r1)), (5, .int (iI r2)), (6, .int (iI (-4)))]) [] _ _ _ _
                refine pm_e_more [(3, .int (iI ((a 23) (w - 1)))), (4, .int (iI r1)), (5, .int (iI r2)), (6, .int (iI (-4)))] (show ([0, 1, 2, 3, 4, 5, 6] : List Nat).Nodup from by decide) ?_
                have h9 := cn0_dn (B := a 22) (g := (a 23) (w - 1)) (y := 2) (by omega) (n := (s 32).toNat)
                refine ih (w + -1) _ (by omega) (fun j h1 h2 => by simp [updA, h1, fA j h1 h2]) (fun j z y => ?_) (fun j z y => hpt j z (by omega)) ?_ k kf ?_
                · show 0 ≤ updI (a 22) _ 2 j ∧ updI (a 22) _ 2 j ≤ 2; have := hmk j z y; unfold updI; split <;> omega
                · show w + -1 + cn0 (updI (a 22) ((a 23) (w - 1)) 2) _ ≤ _; omega
                · show 2 * cn0 (updI (a 22) ((a 23) (w - 1)) 2) _ + (w + -1) < _; omega
              · skip
                show pm_E _ _ _ 183 [(0, .ref 18), (1, .int (iI i)), (2, .int (iI w)), (3, .int (iI ((a 23) (w - 1)))), (4, .int (iI r1)), (5, .int (iI r2))] [] _ _ _ _
                refine pm_e_sim pm_a209_183 rfl ?_
                show pm_E _ _ _ 185 [(0, .ref 18), (1, .int (iI i)), (2, .int (iI w)), (3, .int (iI ((a 23) (w - 1)))), (4, .int (iI r1)), (5, .int (iI r2))] [.int (iI r2)] _ _ _ _
                refine pm_e_goto pm_a209_185 rfl ?_
                show pm_E _ _ _ 190 [(0, .ref 18), (1, .int (iI i)), (2, .int (iI w)), (3, .int (iI ((a 23) (w - 1)))), (4, .int (iI r1)), (5, .int (iI r2))] [.int (iI r2)] _ _ _ _
                refine pm_e_sim pm_a209_190 rfl ?_
                show pm_E _ _ _ 192 [(0, .ref 18), (1, .int (iI i)), (2, .int (iI w)), (3, .int (iI ((a 23) (w - 1)))), (4, .int (iI r1)), (5, .int (iI r2)), (6, .int (iI r2))] [] _ _ _ _
                refine pm_e_sim pm_a209_192 rfl ?_
                show pm_E _ _ _ 194 [(0, .ref 18), (1, .int (iI i)), (2, .int (iI w)), (3, .int (iI ((a 23) (w - 1)))), (4, .int (iI r1)), (5, .int (iI r2)), (6, .int (iI r2))] [.int (iI r2)] _ _ _ _
                refine pm_e_sim pm_a209_194 rfl ?_
                refine pm_e_top (y := iI (-4)) (by decide +kernel) ?_
                show pm_E _ _ _ 196 [(0, .ref 18), (1, .int (iI i)), (2, .int (iI w)), (3, .int (iI ((a 23) (w - 1)))), (4, .int (iI r1)), (5, .int (iI r2)), (6, .int (iI r2))] [.int (iI (-4)), .int (iI r2)] _ _ _ _
                refine pm_c_ne (t := 212) pm_a209_196 rfl ⟨by omega, by omega⟩ ⟨by omega, by omega⟩ (fun h_7 => ?_) (fun h_7 => ?_)
                · skip
                  show pm_E _ _ _ 212 [(0, .ref 18), (1, .int (iI i)), (2, .int (iI w)), (3, .int (iI ((a 23) (w - 1)))), (4, .int (iI r1)), (5, .int (iI r2)), (6, .int (iI r2))] [] _ _ _ _
                  refine pm_e_sim pm_a209_212 rfl ?_
                  show pm_E _ _ _ 213 [(0, .ref 18), (1, .int (iI i)), (2, .int (iI w)), (3, .int (iI ((a 23) (w - 1)))), (4, .int (iI r1)), (5, .int (iI r2)), (6, .int (iI r2))] [.ref 18] _ _ _ _
                  refine pm_i_get pm_a209_213 rfl (mh_get (j := 0) hA rfl) rfl ?_
                  show pm_E _ _ _ 216 [(0, .ref 18), (1, .int (iI i)), (2, .int (iI w)), (3, .int (iI ((a 23) (w - 1)))), (4, .int (iI r1)), (5, .int (iI r2)), (6, .int (iI r2))] [.ref 40] _ _ _ _
                  refine pm_e_sim pm_a209_216 rfl ?_
                  show pm_E _ _ _ 218 [(0, .ref 18), (1, .int (iI i)), (2, .int (iI w)), (3, .int (iI ((a 23) (w - 1)))), (4, .int (iI r1)), (5, .int (iI r2)), (6, .int (iI r2))] [.int (iI r2), .ref 40] _ _ _ _
                  refine pm_i_ald pm_a209_218 (mh_get (j := 22) hA rfl) (by omega) (by omega) ⟨by omega, by omega⟩ ?_
                  show pm_E _ _ _ 219 [(0, .ref 18), (1, .int (iI i)), (2, .int (iI w)), (3, .int (iI ((a 23) (w - 1)))), (4, .int (iI r1)), (5, .int (iI r2)), (6, .int (iI r2))] [.int (iI ((a 22) (r2)))] _ _ _ _
                  refine pm_e_sim pm_a209_219 rfl ?_
                  refine pm_e_top (y := iI 1) (by decide +kernel) ?_
                  show pm_E _ _ _ 220 [(0, .ref 18), (1, .int (iI i)), (2, .int (iI w)), (3, .int (iI ((a 23) (w - 1)))), (4, .int (iI r1)), (5, .int (iI r2)), (6, .int (iI r2))] [.int (iI 1), .int (iI ((a 22) (r2)))] _ _ _ _
                  refine pm_c_ne (t := 225) pm_a209_220 rfl ⟨by omega, by omega⟩ ⟨by omega, by omega⟩ (fun h_8 => ?_) (fun h_8 => ?_)
                  · skip
                    show pm_E _ _ _ 225 [(0, .ref 18), (1, .int (iI i)), (2, .int (iI w)), (3, .int (iI ((a 23) (w - 1)))), (4, .int (iI r1)), (5, .int (iI r2)), (6, .int (iI r2))] [] _ _ _ _
                    refine pm_e_sim pm_a209_225 rfl ?_
                    show pm_E _ _ _ 226 [(0, .ref 18), (1, .int (iI i)), (2, .int (iI w)), (3, .int (iI ((a 23) (w - 1)))), (4, .int (iI r1)), (5, .int (iI r2)), (6, .int (iI r2))] [.ref 18] _ _ _ _
                    refine pm_i_get pm_a209_226 rfl (mh_get (j := 0) hA rfl) rfl ?_
                    show pm_E _ _ _ 229 [(0, .ref 18), (1, .int (iI i)), (2, .int (iI w)), (3, .int (iI ((a 23) (w - 1)))), (4, .int (iI r1)), (5, .int (iI r2)), (6, .int (iI r2))] [.ref 40] _ _ _ _
                    refine pm_e_sim pm_a209_229 rfl ?_
                    show pm_E _ _ _ 231 [(0, .ref 18), (1, .int (iI i)), (2, .int (iI w)), (3, .int (iI ((a 23) (w - 1)))), (4, .int (iI r1)), (5, .int (iI r2)), (6, .int (iI r2))] [.int (iI r2), .ref 40] _ _ _ _
                    refine pm_e_sim pm_a209_231 rfl ?_
                    refine pm_e_top (y := iI 1) (by decide +kernel) ?_
                    show pm_E _ _ _ 232 [(0, .ref 18), (1, .int (iI i)), (2, .int (iI w)), (3, .int (iI ((a 23) (w - 1)))), (4, .int (iI r1)), (5, .int (iI r2)), (6, .int (iI r2))] [.int (iI 1), .int (iI r2), .ref 40] _ _ _ _
                    refine pm_i_ast pm_a209_232 (mh_get (j := 22) hA rfl) (by omega) (by omega) ⟨by omega, by omega⟩ (ma_22 hA _) ?_
                    show pm_E _ _ _ 233 [(0, .ref 18), (1, .int (iI i)), (2, .int (iI w)), (3, .int (iI ((a 23) (w - 1)))), (4, .int (iI r1)), (5, .int (iI r2)), (6, .int (iI r2))] [] _ _ _ _
                    refine pm_e_sim pm_a209_233 rfl ?_
                    show pm_E _ _ _ 234 [(0, .ref 18), (1, .int (iI i)), (2, .int (iI w)), (3, .int (iI ((a 23) (w - 1)))), (4, .int (iI r1)), (5, .int (iI r2)), (6, .int (iI r2))] [.ref 18] _ _ _ _
                    refine pm_i_get pm_a209_234 rfl (mh_get (j := 0) hA rfl) rfl ?_
                    show pm_E _ _ _ 237 [(0, .ref 18), (1, .int (iI i)), (2, .int (iI w)), (3, .int (iI ((a 23) (w - 1)))), (4, .int (iI r1)), (5, .int (iI r2)), (6, .int (iI r2))] [.ref 41] _ _ _ _
                    refine pm_e_sim pm_a209_237 rfl ?_
                    show pm_E _ _ _ 238 [(0, .ref 18), (1, .int (iI i)), (2, .int (iI w)), (3, .int (iI ((a 23) (w - 1)))), (4, .int (iI r1)), (5, .int (iI r2)), (6, .int (iI r2))] [.int (iI w), .ref 41] _ _ _ _
                    refine pm_e_sim pm_a209_238 rfl ?_
                    show pm_E _ _ _ 240 [(0, .ref 18), (1, .int (iI i)), (2, .int (iI w)), (3, .int (iI ((a 23) (w - 1)))), (4, .int (iI r1)), (5, .int (iI r2)), (6, .int (iI r2))] [.int (iI r2), .int (iI w), .ref 41] _ _ _ _
                    refine pm_i_ast pm_a209_240 (mh_get (j := 23) hA rfl) (by omega) (by omega) ⟨by omega, by omega⟩ (ma_23 hA _) ?_
                    show pm_E _ _ _ 241 [(0, .ref 18), (1, .int (iI i)), (2, .int (iI w)), (3, .int (iI ((a 23) (w - 1)))), (4, .int (iI r1)), (5, .int (iI r2)), (6, .int (iI r2))] [] _ _ _ _
                    refine pm_e_inc (y := iI (w + 1)) pm_a209_241 rfl (iI_add _ _) (by decide +kernel) rfl ?_
                    show pm_E _ _ _ 244 [(0, .ref 18), (1, .int (iI i)), (2, .int (iI (w + 1))), (3, .int (iI ((a 23) (w - 1)))), (4, .int (iI r1)), (5, .int (iI r2)), (6, .int (iI r2))] [] _ _ _ _
                    refine pm_e_goto pm_a209_244 rfl ?_
                    show pm_E _ _ _ 73 [(0, .ref 18), (1, .int (iI i)), (2, .int (iI (w + 1))), (3, .int (iI ((a 23) (w - 1)))), (4, .int (iI r1)), (5, .int (iI r2)), (6, .int (iI r2))] [] _ _ _ _
                    show pm_E _ _ _ 73 ([(0, .ref 18), (1, .int (iI i)), (2, .int (iI (w + 1)))] ++ [(3, .int (iI ((a 23) (w - 1)))), (4, .int (iI r1)), (5, .int (iI r2)), (6, .int (iI r2))]) [] _ _ _ _
                    refine pm_e_more [(3, .int (iI ((a 23) (w - 1)))), (4, .int (iI r1)), (5, .int (iI r2)), (6, .int (iI r2))] (show ([0, 1, 2, 3, 4, 5, 6] : List Nat).Nodup from by decide) ?_
                    have h9 := cn0_up (B := a 22) (g := r2) (y := 1) (by omega) (by omega) (n := (s 32).toNat) (by omega) (by omega)
                    have h8 := cn0_le (B := updI (a 22) r2 1) (n := (s 32).toNat)
                    refine ih (w + 1) _ (by omega) (fun j h1 h2 => by simp [updA, h1, h2, fA j h1 h2]) (fun j z y => ?_) (fun j z y => ?_) ?_ k kf ?_
                    · show 0 ≤ updI (a 22) _ 1 j ∧ updI (a 22) _ 1 j ≤ 2; have := hmk j z y; unfold updI; split <;> omega
                    · show 0 ≤ updI (a 23) w _ j ∧ updI (a 23) w _ j < _
                      by_cases hj : j = w
                      · rw [hj, updI_s]; omega
                      · rw [updI_n _ _ hj]; exact hpt j z (by omega)
                    · show w + 1 + cn0 (updI (a 22) r2 1) _ ≤ _; omega
                    · show 2 * cn0 (updI (a 22) r2 1) _ + (w + 1) < _; omega
                  · skip
                    show pm_E _ _ _ 223 [(0, .ref 18), (1, .int (iI i)), (2, .int (iI w)), (3, .int (iI ((a 23) (w - 1)))), (4, .int (iI r1)), (5, .int (iI r2)), (6, .int (iI r2))] [] _ _ _ _
                    refine pm_e_sim pm_a209_223 rfl ?_
                    refine pm_e_top (y := iI 0) (by decide +kernel) ?_
                    show pm_E _ _ _ 224 [(0, .ref 18), (1, .int (iI i)), (2, .int (iI w)), (3, .int (iI ((a 23) (w - 1)))), (4, .int (iI r1)), (5, .int (iI r2)), (6, .int (iI r2))] [.int (iI 0)] _ _ _ _
                    refine pm_e_ret pm_a209_224 rfl rfl rfl rfl rfl rfl rfl rfl ?_
                    exact kf a fA
                · skip
                  show pm_E _ _ _ 199 [(0, .ref 18), (1, .int (iI i)), (2, .int (iI w)), (3, .int (iI ((a 23) (w - 1)))), (4, .int (iI r1)), (5, .int (iI r2)), (6, .int (iI r2))] [] _ _ _ _
                  refine pm_e_sim pm_a209_199 rfl ?_
                  show pm_E _ _ _ 200 [(0, .ref 18), (1, .int (iI i)), (2, .int (iI w)), (3, .int (iI ((a 23) (w - 1)))), (4, .int (iI r1)), (5, .int (iI r2)), (6, .int (iI r2))] [.ref 18] _ _ _ _
                  refine pm_i_get pm_a209_200 rfl (mh_get (j := 0) hA rfl) rfl ?_
                  show pm_E _ _ _ 203 [(0, .ref 18), (1, .int (iI i)), (2, .int (iI w)), (3, .int (iI ((a 23) (w - 1)))), (4, .int (iI r1)), (5, .int (iI r2)), (6, .int (iI r2))] [.ref 40] _ _ _ _
                  refine pm_e_sim pm_a209_203 rfl ?_
                  show pm_E _ _ _ 204 [(0, .ref 18), (1, .int (iI i)), (2, .int (iI w)), (3, .int (iI ((a 23) (w - 1)))), (4, .int (iI r1)), (5, .int (iI r2)), (6, .int (iI r2))] [.int (iI ((a 23) (w - 1))), .ref 40] _ _ _ _
                  refine pm_e_sim pm_a209_204 rfl ?_
                  refine pm_e_top (y := iI 2) (by decide +kernel) ?_
                  show pm_E _ _ _ 205 [(0, .ref 18), (1, .int (iI i)), (2, .int (iI w)), (3, .int (iI ((a 23) (w - 1)))), (4, .int (iI r1)), (5, .int (iI r2)), (6, .int (iI r2))] [.int (iI 2), .int (iI ((a 23) (w - 1))), .ref 40] _ _ _ _
                  refine pm_i_ast pm_a209_205 (mh_get (j := 22) hA rfl) (by omega) (by omega) ⟨by omega, by omega⟩ (ma_22 hA _) ?_
                  show pm_E _ _ _ 206 [(0, .ref 18), (1, .int (iI i)), (2, .int (iI w)), (3, .int (iI ((a 23) (w - 1)))), (4, .int (iI r1)), (5, .int (iI r2)), (6, .int (iI r2))] [] _ _ _ _
                  refine pm_e_inc (y := iI (w + (-1))) pm_a209_206 rfl (iI_add _ _) (by decide +kernel) rfl ?_
                  show pm_E _ _ _ 209 [(0, .ref 18), (1, .int (iI i)), (2, .int (iI (w + (-1)))), (3, .int (iI ((a 23) (w - 1)))), (4, .int (iI r1)), (5, .int (iI r2)), (6, .int (iI r2))] [] _ _ _ _
                  refine pm_e_goto pm_a209_209 rfl ?_
                  show pm_E _ _ _ 244 [(0, .ref 18), (1, .int (iI i)), (2, .int (iI (w + (-1)))), (3, .int (iI ((a 23) (w - 1)))), (4, .int (iI r1)), (5, .int (iI r2)), (6, .int (iI r2))] [] _ _ _ _
                  refine pm_e_goto pm_a209_244 rfl ?_
                  show pm_E _ _ _ 73 [(0, .ref 18), (1, .int (iI i)), (2, .int (iI (w + (-1)))), (3, .int (iI ((a 23) (w - 1)))), (4, .int (iI r1)), (5, .int (iI r2)), (6, .int (iI r2))] [] _ _ _ _
                  show pm_E _ _ _ 73 ([(0, .ref 18), (1, .int (iI i)), (2, .int (iI (w + (-1))))] ++ [(3, .int (iI ((a 23) (w - 1)))), (4, .int (iI r1)), (5, .int (iI r2)), (6, .int (iI r2))]) [] _ _ _ _
                  refine pm_e_more [(3, .int (iI ((a 23) (w - 1)))), (4, .int (iI r1)), (5, .int (iI r2)), (6, .int (iI r2))] (show ([0, 1, 2, 3, 4, 5, 6] : List Nat).Nodup from by decide) ?_
                  have h9 := cn0_dn (B := a 22) (g := (a 23) (w - 1)) (y := 2) (by omega) (n := (s 32).toNat)
                  refine ih (w + -1) _ (by omega) (fun j h1 h2 => by simp [updA, h1, fA j h1 h2]) (fun j z y => ?_) (fun j z y => hpt j z (by omega)) ?_ k kf ?_
                  · show 0 ≤ updI (a 22) _ 2 j ∧ updI (a 22) _ 2 j ≤ 2; have := hmk j z y; unfold updI; split <;> omega
                  · show w + -1 + cn0 (updI (a 22) ((a 23) (w - 1)) 2) _ ≤ _; omega
                  · show 2 * cn0 (updI (a 22) ((a 23) (w - 1)) 2) _ + (w + -1) < _; omega
          · skip
            show pm_E _ _ _ 149 [(0, .ref 18), (1, .int (iI i)), (2, .int (iI w)), (3, .int (iI ((a 23) (w - 1)))), (4, .int (iI r1)), (5, .int (iI r2))] [] _ _ _ _
            refine pm_e_sim pm_a209_149 rfl ?_
            show pm_E _ _ _ 150 [(0, .ref 18), (1, .int (iI i)), (2, .int (iI w)), (3, .int (iI ((a 23) (w - 1)))), (4, .int (iI r1)), (5, .int (iI r2))] [.ref 18] _ _ _ _
            refine pm_i_get pm_a209_150 rfl (mh_get (j := 0) hA rfl) rfl ?_
            show pm_E _ _ _ 153 [(0, .ref 18), (1, .int (iI i)), (2, .int (iI w)), (3, .int (iI ((a 23) (w - 1)))), (4, .int (iI r1)), (5, .int (iI r2))] [.ref 40] _ _ _ _
            refine pm_e_sim pm_a209_153 rfl ?_
            show pm_E _ _ _ 155 [(0, .ref 18), (1, .int (iI i)), (2, .int (iI w)), (3, .int (iI ((a 23) (w - 1)))), (4, .int (iI r1)), (5, .int (iI r2))] [.int (iI r1), .ref 40] _ _ _ _
            refine pm_i_ald pm_a209_155 (mh_get (j := 22) hA rfl) (by omega) (by omega) ⟨by omega, by omega⟩ ?_
            show pm_E _ _ _ 156 [(0, .ref 18), (1, .int (iI i)), (2, .int (iI w)), (3, .int (iI ((a 23) (w - 1)))), (4, .int (iI r1)), (5, .int (iI r2))] [.int (iI ((a 22) (r1)))] _ _ _ _
            refine pm_e_sim pm_a209_156 rfl ?_
            refine pm_e_top (y := iI 2) (by decide +kernel) ?_
            show pm_E _ _ _ 157 [(0, .ref 18), (1, .int (iI i)), (2, .int (iI w)), (3, .int (iI ((a 23) (w - 1)))), (4, .int (iI r1)), (5, .int (iI r2))] [.int (iI 2), .int (iI ((a 22) (r1)))] _ _ _ _
            refine pm_c_ge (t := 165) pm_a209_157 rfl ⟨by omega, by omega⟩ ⟨by omega, by omega⟩ (fun h_9 => ?_) (fun h_9 => ?_)
            · skip
              show pm_E _ _ _ 165 [(0, .ref 18), (1, .int (iI i)), (2, .int (iI w)), (3, .int (iI ((a 23) (w - 1)))), (4, .int (iI r1)), (5, .int (iI r2))] [] _ _ _ _
              refine pm_e_sim pm_a209_165 rfl ?_
              show pm_E _ _ _ 167 [(0, .ref 18), (1, .int (iI i)), (2, .int (iI w)), (3, .int (iI ((a 23) (w - 1)))), (4, .int (iI r1)), (5, .int (iI r2))] [.int (iI r2)] _ _ _ _
              refine pm_e_sim pm_a209_167 rfl ?_
              refine pm_e_top (y := iI (-4)) (by decide +kernel) ?_
              show pm_E _ _ _ 169 [(0, .ref 18), (1, .int (iI i)), (2, .int (iI w)), (3, .int (iI ((a 23) (w - 1)))), (4, .int (iI r1)), (5, .int (iI r2))] [.int (iI (-4)), .int (iI r2)] _ _ _ _
              refine pm_c_eq (t := 188) pm_a209_169 rfl ⟨by omega, by omega⟩ ⟨by omega, by omega⟩ (fun h_10 => ?_) (fun h_10 => ?_)
              · skip
                show pm_E _ _ _ 188 [(0, .ref 18), (1, .int (iI i)), (2, .int (iI w)), (3, .int (iI ((a 23) (w - 1)))), (4, .int (iI r1)), (5, .int (iI r2))] [] _ _ _ _
                refine pm_e_sim pm_a209_188 rfl ?_
                refine pm_e_top (y := iI (-4)) (by decide +kernel) ?_
                show pm_E _ _ _ 190 [(0, .ref 18), (1, .int (iI i)), (2, .int (iI w)), (3, .int (iI ((a 23) (w - 1)))), (4, .int (iI r1)), (5, .int (iI r2))] [.int (iI (-4))] _ _ _ _
                refine pm_e_sim pm_a209_190 rfl ?_
                show pm_E _ _ _ 192 [(0, .ref 18), (1, .int (iI i)), (2, .int (iI w)), (3, .int (iI ((a 23) (w - 1)))), (4, .int (iI r1)), (5, .int (iI r2)), (6, .int (iI (-4)))] [] _ _ _ _
                refine pm_e_sim pm_a209_192 rfl ?_
                show pm_E _ _ _ 194 [(0, .ref 18), (1, .int (iI i)), (2, .int (iI w)), (3, .int (iI ((a 23) (w - 1)))), (4, .int (iI r1)), (5, .int (iI r2)), (6, .int (iI (-4)))] [.int (iI (-4))] _ _ _ _
                refine pm_e_sim pm_a209_194 rfl ?_
                refine pm_e_top (y := iI (-4)) (by decide +kernel) ?_
                show pm_E _ _ _ 196 [(0, .ref 18), (1, .int (iI i)), (2, .int (iI w)), (3, .int (iI ((a 23) (w - 1)))), (4, .int (iI r1)), (5, .int (iI r2)), (6, .int (iI (-4)))] [.int (iI (-4)), .int (iI (-4))] _ _ _ _
                refine pm_e_icf pm_a209_196 rfl (by decide +kernel) ?_
                show pm_E _ _ _ 199 [(0, .ref 18), (1, .int (iI i)), (2, .int (iI w)), (3, .int (iI ((a 23) (w - 1)))), (4, .int (iI r1)), (5, .int (iI r2)), (6, .int (iI (-4)))] [] _ _ _ _
                refine pm_e_sim pm_a209_199 rfl ?_
                show pm_E _ _ _ 200 [(0, .ref 18), (1, .int (iI i)), (2, .int (iI w)), (3, .int (iI ((a 23) (w - 1)))), (4, .int (iI r1)), (5, .int (iI r2)), (6, .int (iI (-4)))] [.ref 18] _ _ _ _
                refine pm_i_get pm_a209_200 rfl (mh_get (j := 0) hA rfl) rfl ?_
                show pm_E _ _ _ 203 [(0, .ref 18), (1, .int (iI i)), (2, .int (iI w)), (3, .int (iI ((a 23) (w - 1)))), (4, .int (iI r1)), (5, .int (iI r2)), (6, .int (iI (-4)))] [.ref 40] _ _ _ _
                refine pm_e_sim pm_a209_203 rfl ?_
                show pm_E _ _ _ 204 [(0, .ref 18), (1, .int (iI i)), (2, .int (iI w)), (3, .int (iI ((a 23) (w - 1)))), (4, .int (iI r1)), (5, .int (iI r2)), (6, .int (iI (-4)))] [.int (iI ((a 23) (w - 1))), .ref 40] _ _ _ _
                refine pm_e_sim pm_a209_204 rfl ?_
                refine pm_e_top (y := iI 2) (by decide +kernel) ?_
                show pm_E _ _ _ 205 [(0, .ref 18), (1, .int (iI i)), (2, .int (iI w)), (3, .int (iI ((a 23) (w - 1)))), (4, .int (iI r1)), (5, .int (iI r2)), (6, .int (iI (-4)))] [.int (iI 2), .int (iI ((a 23) (w - 1))), .ref 40] _ _ _ _
                refine pm_i_ast pm_a209_205 (mh_get (j := 22) hA rfl) (by omega) (by omega) ⟨by omega, by omega⟩ (ma_22 hA _) ?_
                show pm_E _ _ _ 206 [(0, .ref 18), (1, .int (iI i)), (2, .int (iI w)), (3, .int (iI ((a 23) (w - 1)))), (4, .int (iI r1)), (5, .int (iI r2)), (6, .int (iI (-4)))] [] _ _ _ _
                refine pm_e_inc (y := iI (w + (-1))) pm_a209_206 rfl (iI_add _ _) (by decide +kernel) rfl ?_
                show pm_E _ _ _ 209 [(0, .ref 18), (1, .int (iI i)), (2, .int (iI (w + (-1)))), (3, .int (iI ((a 23) (w - 1)))), (4, .int (iI r1)), (5, .int (iI r2)), (6, .int (iI (-4)))] [] _ _ _ _
                refine pm_e_goto pm_a209_209 rfl ?_
                show pm_E _ _ _ 244 [(0, .ref 18), (1, .int (iI i)), (2, .int (iI (w + (-1)))), (3, .int (iI ((a 23) (w - 1)))), (4, .int (iI r1)), (5, .int (iI r2)), (6, .int (iI (-4)))] [] _ _ _ _
                refine pm_e_goto pm_a209_244 rfl ?_
                show pm_E _ _ _ 73 [(0, .ref 18), (1, .int (iI i)), (2, .int (iI (w + (-1)))), (3, .int (iI ((a 23) (w - 1)))), (4, .int (iI r1)), (5, .int (iI r2)), (6, .int (iI (-4)))] [] _ _ _ _
                show pm_E _ _ _ 73 ([(0, .ref 18), (1, .int (iI i)), (2, .int (iI (w + (-1))))] ++ [(3, .int (iI ((a 23) (w - 1)))), (4, .int (iI r1)), (5, .int (iI r2)), (6, .int (iI (-4)))]) [] _ _ _ _
                refine pm_e_more [(3, .int (iI ((a 23) (w - 1)))), (4, .int (iI r1)), (5, .int (iI r2)), (6, .int (iI (-4)))] (show ([0, 1, 2, 3, 4, 5, 6] : List Nat).Nodup from by decide) ?_
                have h9 := cn0_dn (B := a 22) (g := (a 23) (w - 1)) (y := 2) (by omega) (n := (s 32).toNat)
                refine ih (w + -1) _ (by omega) (fun j h1 h2 => by simp [updA, h1, fA j h1 h2]) (fun j z y => ?_) (fun j z y => hpt j z (by omega)) ?_ k kf ?_
                · show 0 ≤ updI (a 22) _ 2 j ∧ updI (a 22) _ 2 j ≤ 2; have := hmk j z y; unfold updI; split <;> omega
                · show w + -1 + cn0 (updI (a 22) ((a 23) (w - 1)) 2) _ ≤ _; omega
                · show 2 * cn0 (updI (a 22) ((a 23) (w - 1)) 2) _ + (w + -1) < _; omega
              · skip
                show pm_E _ _ _ 172 [(0, .ref 18), (1, .int (iI i)), (2, .int (iI w)), (3, .int (iI ((a 23) (w - 1)))), (4, .int (iI r1)), (5, .int (iI r2))] [] _ _ _ _
                refine pm_e_sim pm_a209_172 rfl ?_
                show pm_E _ _ _ 173 [(0, .ref 18), (1, .int (iI i)), (2, .int (iI w)), (3, .int (iI ((a 23) (w - 1)))), (4, .int (iI r1)), (5, .int (iI r2))] [.ref 18] _ _ _ _
                refine pm_i_get pm_a209_173 rfl (mh_get (j := 0) hA rfl) rfl ?_
                show pm_E _ _ _ 176 [(0, .ref 18), (1, .int (iI i)), (2, .int (iI w)), (3, .int (iI ((a 23) (w - 1)))), (4, .int (iI r1)), (5, .int (iI r2))] [.ref 40] _ _ _ _
                refine pm_e_sim pm_a209_176 rfl ?_
                show pm_E _ _ _ 178 [(0, .ref 18), (1, .int (iI i)), (2, .int (iI w)), (3, .int (iI ((a 23) (w - 1)))), (4, .int (iI r1)), (5, .int (iI r2))] [.int (iI r2), .ref 40] _ _ _ _
                refine pm_i_ald pm_a209_178 (mh_get (j := 22) hA rfl) (by omega) (by omega) ⟨by omega, by omega⟩ ?_
                show pm_E _ _ _ 179 [(0, .ref 18), (1, .int (iI i)), (2, .int (iI w)), (3, .int (iI ((a 23) (w - 1)))), (4, .int (iI r1)), (5, .int (iI r2))] [.int (iI ((a 22) (r2)))] _ _ _ _
                refine pm_e_sim pm_a209_179 rfl ?_
                refine pm_e_top (y := iI 2) (by decide +kernel) ?_
                show pm_E _ _ _ 180 [(0, .ref 18), (1, .int (iI i)), (2, .int (iI w)), (3, .int (iI ((a 23) (w - 1)))), (4, .int (iI r1)), (5, .int (iI r2))] [.int (iI 2), .int (iI ((a 22) (r2)))] _ _ _ _
                refine pm_c_ge (t := 188) pm_a209_180 rfl ⟨by omega, by omega⟩ ⟨by omega, by omega⟩ (fun h_11 => ?_) (fun h_11 => ?_)
                · skip
                  show pm_E _ _ _ 188 [(0, .ref 18), (1, .int (iI i)), (2, .int (iI w)), (3, .int (iI ((a 23) (w - 1)))), (4, .int (iI r1)), (5, .int (iI r2))] [] _ _ _ _
                  refine pm_e_sim pm_a209_188 rfl ?_
                  refine pm_e_top (y := iI (-4)) (by decide +kernel) ?_
                  show pm_E _ _ _ 190 [(0, .ref 18), (1, .int (iI i)), (2, .int (iI w)), (3, .int (iI ((a 23) (w - 1)))), (4, .int (iI r1)), (5, .int (iI r2))] [.int (iI (-4))] _ _ _ _
                  refine pm_e_sim pm_a209_190 rfl ?_
                  show pm_E _ _ _ 192 [(0, .ref 18), (1, .int (iI i)), (2, .int (iI w)), (3, .int (iI ((a 23) (w - 1)))), (4, .int (iI r1)), (5, .int (iI r2)), (6, .int (iI (-4)))] [] _ _ _ _
                  refine pm_e_sim pm_a209_192 rfl ?_
                  show pm_E _ _ _ 194 [(0, .ref 18), (1, .int (iI i)), (2, .int (iI w)), (3, .int (iI ((a 23) (w - 1)))), (4, .int (iI r1)), (5, .int (iI r2)), (6, .int (iI (-4)))] [.int (iI (-4))] _ _ _ _
                  refine pm_e_sim pm_a209_194 rfl ?_
                  refine pm_e_top (y := iI (-4)) (by decide +kernel) ?_
                  show pm_E _ _ _ 196 [(0, .ref 18), (1, .int (iI i)), (2, .int (iI w)), (3, .int (iI ((a 23) (w - 1)))), (4, .int (iI r1)), (5, .int (iI r2)), (6, .int (iI (-4)))] [.int (iI (-4)), .int (iI (-4))] _ _ _ _
                  refine pm_e_icf pm_a209_196 rfl (by decide +kernel) ?_
                  show pm_E _ _ _ 199 [(0, .ref 18), (1, .int (iI i)), (2, .int (iI w)), (3, .int (iI ((a 23) (w - 1)))), (4, .int (iI r1)), (5, .int (iI r2)), (6, .int (iI (-4)))] [] _ _ _ _
                  refine pm_e_sim pm_a209_199 rfl ?_
                  show pm_E _ _ _ 200 [(0, .ref 18), (1, .int (iI i)), (2, .int (iI w)), (3, .int (iI ((a 23) (w - 1)))), (4, .int (iI r1)), (5, .int (iI r2)), (6, .int (iI (-4)))] [.ref 18] _ _ _ _
                  refine pm_i_get pm_a209_200 rfl (mh_get (j := 0) hA rfl) rfl ?_
                  show pm_E _ _ _ 203 [(0, .ref 18), (1, .int (iI i)), (2, .int (iI w)), (3, .int (iI ((a 23) (w - 1)))), (4, .int (iI r1)), (5, .int (iI r2)), (6, .int (iI (-4)))] [.ref 40] _ _ _ _
                  refine pm_e_sim pm_a209_203 rfl ?_
                  show pm_E _ _ _ 204 [(0, .ref 18), (1, .int (iI i)), (2, .int (iI w)), (3, .int (iI ((a 23) (w - 1)))), (4, .int (iI r1)), (5, .int (iI r2)), (6, .int (iI (-4)))] [.int (iI ((a 23) (w - 1))), .ref 40] _ _ _ _
                  refine pm_e_sim pm_a209_204 rfl ?_
                  refine pm_e_top (y := iI 2) (by decide +kernel) ?_
                  show pm_E _ _ _ 205 [(0, .ref 18), (1, .int (iI i)), (2, .int (iI w)), (3, .int (iI ((a 23) (w - 1)))), (4, .int (iI r1)), (5, .int (iI r2)), (6, .int (iI (-4)))] [.int (iI 2), .int (iI ((a 23) (w - 1))), .ref 40] _ _ _ _
                  refine pm_i_ast pm_a209_205 (mh_get (j := 22) hA rfl) (by omega) (by omega) ⟨by omega, by omega⟩ (ma_22 hA _) ?_
                  show pm_E _ _ _ 206 [(0, .ref 18), (1, .int (iI i)), (2, .int (iI w)), (3, .int (iI ((a 23) (w - 1)))), (4, .int (iI r1)), (5, .int (iI r2)), (6, .int (iI (-4)))] [] _ _ _ _
                  refine pm_e_inc (y := iI (w + (-1))) pm_a209_206 rfl (iI_add _ _) (by decide +kernel) rfl ?_
                  show pm_E _ _ _ 209 [(0, .ref 18), (1, .int (iI i)), (2, .int (iI (w + (-1)))), (3, .int (iI ((a 23) (w - 1)))), (4, .int (iI r1)), (5, .int (iI r2)), (6, .int (iI (-4)))] [] _ _ _ _
                  refine pm_e_goto pm_a209_209 rfl ?_
                  show pm_E _ _ _ 244 [(0, .ref 18), (1, .int (iI i)), (2, .int (iI (w + (-1)))), (3, .int (iI ((a 23) (w - 1)))), (4, .int (iI r1)), (5, .int (iI r2)), (6, .int (iI (-4)))] [] _ _ _ _
                  refine pm_e_goto pm_a209_244 rfl ?_
                  show pm_E _ _ _ 73 [(0, .ref 18), (1, .int (iI i)), (2, .int (iI (w + (-1)))), (3, .int (iI ((a 23) (w - 1)))), (4, .int (iI r1)), (5, .int (iI r2)), (6, .int (iI (-4)))] [] _ _ _ _
                  show pm_E _ _ _ 73 ([(0, .ref 18), (1, .int (iI i)), (2, .int (iI (w + (-1))))] ++ [(3, .int (iI ((a 23) (w - 1)))), (4, .int (iI r1)), (5, .int (iI r2)), (6, .int (iI (-4)))]) [] _ _ _ _
                  refine pm_e_more [(3, .int (iI ((a 23) (w - 1)))), (4, .int (iI r1)), (5, .int (iI r2)), (6, .int (iI (-4)))] (show ([0, 1, 2, 3, 4, 5, 6] : List Nat).Nodup from by decide) ?_
                  have h9 := cn0_dn (B := a 22) (g := (a 23) (w - 1)) (y := 2) (by omega) (n := (s 32).toNat)
                  refine ih (w + -1) _ (by omega) (fun j h1 h2 => by simp [updA, h1, fA j h1 h2]) (fun j z y => ?_) (fun j z y => hpt j z (by omega)) ?_ k kf ?_
                  · show 0 ≤ updI (a 22) _ 2 j ∧ updI (a 22) _ 2 j ≤ 2; have := hmk j z y; unfold updI; split <;> omega
                  · show w + -1 + cn0 (updI (a 22) ((a 23) (w - 1)) 2) _ ≤ _; omega
                  · show 2 * cn0 (updI (a 22) ((a 23) (w - 1)) 2) _ + (w + -1) < _; omega
                · skip
                  show pm_E _ _ _ 183 [(0, .ref 18), (1, .int (iI i)), (2, .int (iI w)), (3, .int (iI ((a 23) (w - 1)))), (4, .int (iI r1)), (5, .int (iI r2))] [] _ _ _ _
                  refine pm_e_sim pm_a209_183 rfl ?_
                  show pm_E _ _ _ 185 [(0, .ref 18), (1, .int (iI i)), (2, .int (iI w)), (3, .int (iI ((a 23) (w - 1)))), (4, .int (iI r1)), (5, .int (iI r2))] [.int (iI r2)] _ _ _ _
                  refine pm_e_goto pm_a209_185 rfl ?_
                  show pm_E _ _ _ 190 [(0, .ref 18), (1, .int (iI i)), (2, .int (iI w)), (3, .int (iI ((a 23) (w - 1)))), (4, .int (iI r1)), (5, .int (iI r2))] [.int (iI r2)] _ _ _ _
                  refine pm_e_sim pm_a209_190 rfl ?_
                  show pm_E _ _ _ 192 [(0, .ref 18), (1, .int (iI i)), (2, .int (iI w)), (3, .int (iI ((a 23) (w - 1)))), (4, .int (iI r1)), (5, .int (iI r2)), (6, .int (iI r2))] [] _ _ _ _
                  refine pm_e_sim pm_a209_192 rfl ?_
                  show pm_E _ _ _ 194 [(0, .ref 18), (1, .int (iI i)), (2, .int (iI w)), (3, .int (iI ((a 23) (w - 1)))), (4, .int (iI r1)), (5, .int (iI r2)), (6, .int (iI r2))] [.int (iI r2)] _ _ _ _
                  refine pm_e_sim pm_a209_194 rfl ?_
                  refine pm_e_top (y := iI (-4)) (by decide +kernel) ?_
                  show pm_E _ _ _ 196 [(0, .ref 18), (1, .int (iI i)), (2, .int (iI w)), (3, .int (iI ((a 23) (w - 1)))), (4, .int (iI r1)), (5, .int (iI r2)), (6, .int (iI r2))] [.int (iI (-4)), .int (iI r2)] _ _ _ _
                  refine pm_c_ne (t := 212) pm_a209_196 rfl ⟨by omega, by omega⟩ ⟨by omega, by omega⟩ (fun h_12 => ?_) (fun h_12 => ?_)
                  · skip
                    show pm_E _ _ _ 212 [(0, .ref 18), (1, .int (iI i)), (2, .int (iI w)), (3, .int (iI ((a 23) (w - 1)))), (4, .int (iI r1)), (5, .int (iI r2)), (6, .int (iI r2))] [] _ _ _ _
                    refine pm_e_sim pm_a209_212 rfl ?_
                    show pm_E _ _ _ 213 [(0, .ref 18), (1, .int (iI i)), (2, .int (iI w)), (3, .int (iI ((a 23) (w - 1)))), (4, .int (iI r1)), (5, .int (iI r2)), (6, .int (iI r2))] [.ref 18] _ _ _ _
                    refine pm_i_get pm_a209_213 rfl (mh_get (j := 0) hA rfl) rfl ?_
                    show pm_E _ _ _ 216 [(0, .ref 18), (1, .int (iI i)), (2, .int (iI w)), (3, .int (iI ((a 23) (w - 1)))), (4, .int (iI r1)), (5, .int (iI r2)), (6, .int (iI r2))] [.ref 40] _ _ _ _
                    refine pm_e_sim pm_a209_216 rfl ?_
                    show pm_E _ _ _ 218 [(0, .ref 18), (1, .int (iI i)), (2, .int (iI w)), (3, .int (iI ((a 23) (w - 1)))), (4, .int (iI r1)), (5, .int (iI r2)), (6, .int (iI r2))] [.int (iI r2), .ref 40] _ _ _ _
                    refine pm_i_ald pm_a209_218 (mh_get (j := 22) hA rfl) (by omega) (by omega) ⟨by omega, by omega⟩ ?_
                    show pm_E _ _ _ 219 [(0, .ref 18), (1, .int (iI i)), (2, .int (iI w)), (3, .int (iI ((a 23) (w - 1)))), (4, .int (iI r1)), (5, .int (iI r2)), (6, .int (iI r2))] [.int (iI ((a 22) (r2)))] _ _ _ _
                    refine pm_e_sim pm_a209_219 rfl ?_
                    refine pm_e_top (y := iI 1) (by decide +kernel) ?_
                    show pm_E _ _ _ 220 [(0, .ref 18), (1, .int (iI i)), (2, .int (iI w)), (3, .int (iI ((a 23) (w - 1)))), (4, .int (iI r1)), (5, .int (iI r2)), (6, .int (iI r2))] [.int (iI 1), .int (iI ((a 22) (r2)))] _ _ _ _
                    refine pm_c_ne (t := 225) pm_a209_220 rfl ⟨by omega, by omega⟩ ⟨by omega, by omega⟩ (fun h_13 => ?_) (fun h_13 => ?_)
                    · skip
                      show pm_E _ _ _ 225 [(0, .ref 18), (1, .int (iI i)), (2, .int (iI w)), (3, .int (iI ((a 23) (w - 1)))), (4, .int (iI r1)), (5, .int (iI r2)), (6, .int (iI r2))] [] _ _ _ _
                      refine pm_e_sim pm_a209_225 rfl ?_
                      show pm_E _ _ _ 226 [(0, .ref 18), (1, .int (iI i)), (2, .int (iI w)), (3, .int (iI ((a 23) (w - 1)))), (4, .int (iI r1)), (5, .int (iI r2)), (6, .int (iI r2))] [.ref 18] _ _ _ _
                      refine pm_i_get pm_a209_226 rfl (mh_get (j := 0) hA rfl) rfl ?_
                      show pm_E _ _ _ 229 [(0, .ref 18), (1, .int (iI i)), (2, .int (iI w)), (3, .int (iI ((a 23) (w - 1)))), (4, .int (iI r1)), (5, .int (iI r2)), (6, .int (iI r2))] [.ref 40] _ _ _ _
                      refine pm_e_sim pm_a209_229 rfl ?_
                      show pm_E _ _ _ 231 [(0, .ref 18), (1, .int (iI i)), (2, .int (iI w)), (3, .int (iI ((a 23) (w - 1)))), (4, .int (iI r1)), (5, .int (iI r2)), (6, .int (iI r2))] [.int (iI r2), .ref 40] _ _ _ _
                      refine pm_e_sim pm_a209_231 rfl ?_
                      refine pm_e_top (y := iI 1) (by decide +kernel) ?_
                      show pm_E _ _ _ 232 [(0, .ref 18), (1, .int (iI i)), (2, .int (iI w)), (3, .int (iI ((a 23) (w - 1)))), (4, .int (iI r1)), (5, .int (iI r2)), (6, .int (iI r2))] [.int (iI 1), .int (iI r2), .ref 40] _ _ _ _
                      refine pm_i_ast pm_a209_232 (mh_get (j := 22) hA rfl) (by omega) (by omega) ⟨by omega, by omega⟩ (ma_22 hA _) ?_
                      show pm_E _ _ _ 233 [(0, .ref 18), (1, .int (iI i)), (2, .int (iI w)), (3, .int (iI ((a 23) (w - 1)))), (4, .int (iI r1)), (5, .int (iI r2)), (6, .int (iI r2))] [] _ _ _ _
                      refine pm_e_sim pm_a209_233 rfl ?_
                      show pm_E _ _ _ 234 [(0, .ref 18), (1, .int (iI i)), (2, .int (iI w)), (3, .int (iI ((a 23) (w - 1)))), (4, .int (iI r1)), (5, .int (iI r2)), (6, .int (iI r2))] [.ref 18] _ _ _ _
                      refine pm_i_get pm_a209_234 rfl (mh_get (j := 0) hA rfl) rfl ?_
                      show pm_E _ _ _ 237 [(0, .ref 18), (1, .int (iI i)), (2, .int (iI w)), (3, .int (iI ((a 23) (w - 1)))), (4, .int (iI r1)), (5, .int (iI r2)), (6, .int (iI r2))] [.ref 41] _ _ _ _
                      refine pm_e_sim pm_a209_237 rfl ?_
                      show pm_E _ _ _ 238 [(0, .ref 18), (1, .int (iI i)), (2, .int (iI w)), (3, .int (iI ((a 23) (w - 1)))), (4, .int (iI r1)), (5, .int (iI r2)), (6, .int (iI r2))] [.int (iI w), .ref 41] _ _ _ _
                      refine pm_e_sim pm_a209_238 rfl ?_
                      show pm_E _ _ _ 240 [(0, .ref 18), (1, .int (iI i)), (2, .int (iI w)), (3, .int (iI ((a 23) (w - 1)))), (4, .int (iI r1)), (5, .int (iI r2)), (6, .int (iI r2))] [.int (iI r2), .int (iI w), .ref 41] _ _ _ _
                      refine pm_i_ast pm_a209_240 (mh_get (j := 23) hA rfl) (by omega) (by omega) ⟨by omega, by omega⟩ (ma_23 hA _) ?_
                      show pm_E _ _ _ 241 [(0, .ref 18), (1, .int (iI i)), (2, .int (iI w)), (3, .int (iI ((a 23) (w - 1)))), (4, .int (iI r1)), (5, .int (iI r2)), (6, .int (iI r2))] [] _ _ _ _
                      refine pm_e_inc (y := iI (w + 1)) pm_a209_241 rfl (iI_add _ _) (by decide +kernel) rfl ?_
                      show pm_E _ _ _ 244 [(0, .ref 18), (1, .int (iI i)), (2, .int (iI (w + 1))), (3, .int (iI ((a 23) (w - 1)))), (4, .int (iI r1)), (5, .int (iI r2)), (6, .int (iI r2))] [] _ _ _ _
                      refine pm_e_goto pm_a209_244 rfl ?_
                      show pm_E _ _ _ 73 [(0, .ref 18), (1, .int (iI i)), (2, .int (iI (w + 1))), (3, .int (iI ((a 23) (w - 1)))), (4, .int (iI r1)), (5, .int (iI r2)), (6, .int (iI r2))] [] _ _ _ _
                      show pm_E _ _ _ 73 ([(0, .ref 18), (1, .int (iI i)), (2, .int (iI (w + 1)))] ++ [(3, .int (iI ((a 23) (w - 1)))), (4, .int (iI r1)), (5, .int (iI r2)), (6, .int (iI r2))]) [] _ _ _ _
                      refine pm_e_more [(3, .int (iI ((a 23) (w - 1)))), (4, .int (iI r1)), (5, .int (iI r2)), (6, .int (iI r2))] (show ([0, 1, 2, 3, 4, 5, 6] : List Nat).Nodup from by decide) ?_
                      have h9 := cn0_up (B := a 22) (g := r2) (y := 1) (by omega) (by omega) (n := (s 32).toNat) (by omega) (by omega)
                      have h8 := cn0_le (B := updI (a 22) r2 1) (n := (s 32).toNat)
                      refine ih (w + 1) _ (by omega) (fun j h1 h2 => by simp [updA, h1, h2, fA j h1 h2]) (fun j z y => ?_) (fun j z y => ?_) ?_ k kf ?_
                      · show 0 ≤ updI (a 22) _ 1 j ∧ updI (a 22) _ 1 j ≤ 2; have := hmk j z y; unfold updI; split <;> omega
                      · show 0 ≤ updI (a 23) w _ j ∧ updI (a 23) w _ j < _
                        by_cases hj : j = w
                        · rw [hj, updI_s]; omega
                        · rw [updI_n _ _ hj]; exact hpt j z (by omega)
                      · show w + 1 + cn0 (updI (a 22) r2 1) _ ≤ _; omega
                      · show 2 * cn0 (updI (a 22) r2 1) _ + (w + 1) < _; omega
                    · skip
                      show pm_E _ _ _ 223 [(0, .ref 18), (1, .int (iI i)), (2, .int (iI w)), (3, .int (iI ((a 23) (w - 1)))), (4, .int (iI r1)), (5, .int (iI r2)), (6, .int (iI r2))] [] _ _ _ _
                      refine pm_e_sim pm_a209_223 rfl ?_
                      refine pm_e_top (y := iI 0) (by decide +kernel) ?_
                      show pm_E _ _ _ 224 [(0, .ref 18), (1, .int (iI i)), (2, .int (iI w)), (3, .int (iI ((a 23) (w - 1)))), (4, .int (iI r1)), (5, .int (iI r2)), (6, .int (iI r2))] [.int (iI 0)] _ _ _ _
                      refine pm_e_ret pm_a209_224 rfl rfl rfl rfl rfl rfl rfl rfl ?_
                      exact kf a fA
                  · skip
                    show pm_E _ _ _ 199 [(0, .ref 18), (1, .int (iI i)), (2, .int (iI w)), (3, .int (iI ((a 23) (w - 1)))), (4, .int (iI r1)), (5, .int (iI r2)), (6, .int (iI r2))] [] _ _ _ _
                    refine pm_e_sim pm_a209_199 rfl ?_
                    show pm_E _ _ _ 200 [(0, .ref 18), (1, .int (iI i)), (2, .int (iI w)), (3, .int (iI ((a 23) (w - 1)))), (4, .int (iI r1)), (5, .int (iI r2)), (6, .int (iI r2))] [.ref 18] _ _ _ _
                    refine pm_i_get pm_a209_200 rfl (mh_get (j := 0) hA rfl) rfl ?_
                    show pm_E _ _ _ 203 [(0, .ref 18), (1, .int (iI i)), (2, .int (iI w)), (3, .int (iI ((a 23) (w - 1)))), (4, .int (iI r1)), (5, .int (iI r2)), (6, .int (iI r2))] [.ref 40] _ _ _ _
                    refine pm_e_sim pm_a209_203 rfl ?_
                    show pm_E _ _ _ 204 [(0, .ref 18), (1, .int (iI i)), (2, .int (iI w)), (3, .int (iI ((a 23) (w - 1)))), (4, .int (iI r1)), (5, .int (iI r2)), (6, .int (iI r2))] [.int (iI ((a 23) (w - 1))), .ref 40] _ _ _ _
                    refine pm_e_sim pm_a209_204 rfl ?_
                    refine pm_e_top (y := iI 2) (by decide +kernel) ?_
                    show pm_E _ _ _ 205 [(0, .ref 18), (1, .int (iI i)), (2, .int (iI w)), (3, .int (iI ((a 23) (w - 1)))), (4, .int (iI r1)), (5, .int (iI r2)), (6, .int (iI r2))] [.int (iI 2), .int (iI ((a 23) (w - 1))), .ref 40] _ _ _ _
                    refine pm_i_ast pm_a209_205 (mh_get (j := 22) hA rfl) (by omega) (by omega) ⟨by omega, by omega⟩ (ma_22 hA _) ?_
                    show pm_E _ _ _ 206 [(0, .ref 18), (1, .int (iI i)), (2, .int (iI w)), (3, .int (iI ((a 23) (w - 1)))), (4, .int (iI r1)), (5, .int (iI r2)), (6, .int (iI r2))] [] _ _ _ _
                    refine pm_e_inc (y := iI (w + (-1))) pm_a209_206 rfl (iI_add _ _) (by decide +kernel) rfl ?_
                    show pm_E _ _ _ 209 [(0, .ref 18), (1, .int (iI i)), (2, .int (iI (w + (-1)))), (3, .int (iI ((a 23) (w - 1)))), (4, .int (iI r1)), (5, .int (iI r2)), (6, .int (iI r2))] [] _ _ _ _
                    refine pm_e_goto pm_a209_209 rfl ?_
                    show pm_E _ _ _ 244 [(0, .ref 18), (1, .int (iI i)), (2, .int (iI (w + (-1)))), (3, .int (iI ((a 23) (w - 1)))), (4, .int (iI r1)), (5, .int (iI r2)), (6, .int (iI r2))] [] _ _ _ _
                    refine pm_e_goto pm_a209_244 rfl ?_
                    show pm_E _ _ _ 73 [(0, .ref 18), (1, .int (iI i)), (2, .int (iI (w + (-1)))), (3, .int (iI ((a 23) (w - 1)))), (4, .int (iI r1)), (5, .int (iI r2)), (6, .int (iI r2))] [] _ _ _ _
                    show pm_E _ _ _ 73 ([(0, .ref 18), (1, .int (iI i)), (2, .int (iI (w + (-1))))] ++ [(3, .int (iI ((a 23) (w - 1)))), (4, .int (iI r1)), (5, .int (iI r2)), (6, .int (iI r2))]) [] _ _ _ _
                    refine pm_e_more [(3, .int (iI ((a 23) (w - 1)))), (4, .int (iI r1)), (5, .int (iI r2)), (6, .int (iI r2))] (show ([0, 1, 2, 3, 4, 5, 6] : List Nat).Nodup from by decide) ?_
                    have h9 := cn0_dn (B := a 22) (g := (a 23) (w - 1)) (y := 2) (by omega) (n := (s 32).toNat)
                    refine ih (w + -1) _ (by omega) (fun j h1 h2 => by simp [updA, h1, fA j h1 h2]) (fun j z y => ?_) (fun j z y => hpt j z (by omega)) ?_ k kf ?_
                    · show 0 ≤ updI (a 22) _ 2 j ∧ updI (a 22) _ 2 j ≤ 2; have := hmk j z y; unfold updI; split <;> omega
                    · show w + -1 + cn0 (updI (a 22) ((a 23) (w - 1)) 2) _ ≤ _; omega
                    · show 2 * cn0 (updI (a 22) ((a 23) (w - 1)) 2) _ + (w + -1) < _; omega
            · skip
              show pm_E _ _ _ 160 [(0, .ref 18), (1, .int (iI i)), (2, .int (iI w)), (3, .int (iI ((a 23) (w - 1)))), (4, .int (iI r1)), (5, .int (iI r2))] [] _ _ _ _
              refine pm_e_sim pm_a209_160 rfl ?_
              show pm_E _ _ _ 162 [(0, .ref 18), (1, .int (iI i)), (2, .int (iI w)), (3, .int (iI ((a 23) (w - 1)))), (4, .int (iI r1)), (5, .int (iI r2))] [.int (iI r1)] _ _ _ _
              refine pm_e_goto pm_a209_162 rfl ?_
              show pm_E _ _ _ 190 [(0, .ref 18), (1, .int (iI i)), (2, .int (iI w)), (3, .int (iI ((a 23) (w - 1)))), (4, .int (iI r1)), (5, .int (iI r2))] [.int (iI r1)] _ _ _ _
              refine pm_e_sim pm_a209_190 rfl ?_
              show pm_E _ _ _ 192 [(0, .ref 18), (1, .int (iI i)), (2, .int (iI w)), (3, .int (iI ((a 23) (w - 1)))), (4, .int (iI r1)), (5, .int (iI r2)), (6, .int (iI r1))] [] _ _ _ _
              refine pm_e_sim pm_a209_192 rfl ?_
              show pm_E _ _ _ 194 [(0, .ref 18), (1, .int (iI i)), (2, .int (iI w)), (3, .int (iI ((a 23) (w - 1)))), (4, .int (iI r1)), (5, .int (iI r2)), (6, .int (iI r1))] [.int (iI r1)] _ _ _ _
              refine pm_e_sim pm_a209_194 rfl ?_
              refine pm_e_top (y := iI (-4)) (by decide +kernel) ?_
              show pm_E _ _ _ 196 [(0, .ref 18), (1, .int (iI i)), (2, .int (iI w)), (3, .int (iI ((a 23) (w - 1)))), (4, .int (iI r1)), (5, .int (iI r2)), (6, .int (iI r1))] [.int (iI (-4)), .int (iI r1)] _ _ _ _
              refine pm_c_ne (t := 212) pm_a209_196 rfl ⟨by omega, by omega⟩ ⟨by omega, by omega⟩ (fun h_14 => ?_) (fun h_14 => ?_)
              · skip
                show pm_E _ _ _ 212 [(0, .ref 18), (1, .int (iI i)), (2, .int (iI w)), (3, .int (iI ((a 23) (w - 1)))), (4, .int (iI r1)), (5, .int (iI r2)), (6, .int (iI r1))] [] _ _ _ _
                refine pm_e_sim pm_a209_212 rfl ?_
                show pm_E _ _ _ 213 [(0, .ref 18), (1, .int (iI i)), (2, .int (iI w)), (3, .int (iI ((a 23) (w - 1)))), (4, .int (iI r1)), (5, .int (iI r2)), (6, .int (iI r1))] [.ref 18] _ _ _ _
                refine pm_i_get pm_a209_213 rfl (mh_get (j := 0) hA rfl) rfl ?_
                show pm_E _ _ _ 216 [(0, .ref 18), (1, .int (iI i)), (2, .int (iI w)), (3, .int (iI ((a 23) (w - 1)))), (4, .int (iI r1)), (5, .int (iI r2)), (6, .int (iI r1))] [.ref 40] _ _ _ _
                refine pm_e_sim pm_a209_216 rfl ?_
                show pm_E _ _ _ 218 [(0, .ref 18), (1, .int (iI i)), (2, .int (iI w)), (3, .int (iI ((a 23) (w - 1)))), (4, .int (iI r1)), (5, .int (iI r2)), (6, .int (iI r1))] [.int (iI r1), .ref 40] _ _ _ _
                refine pm_i_ald pm_a209_218 (mh_get (j := 22) hA rfl) (by omega) (by omega) ⟨by omega, by omega⟩ ?_
                show pm_E _ _ _ 219 [(0, .ref 18), (1, .int (iI i)), (2, .int (iI w)), (3, .int (iI ((a 23) (w - 1)))), (4, .int (iI r1)), (5, .int (iI r2)), (6, .int (iI r1))] [.int (iI ((a 22) (r1)))] _ _ _ _
                refine pm_e_sim pm_a209_219 rfl ?_
                refine pm_e_top (y := iI 1) (by decide +kernel) ?_
                show pm_E _ _ _ 220 [(0, .ref 18), (1, .int (iI i)), (2, .int (iI w)), (3, .int (iI ((a 23) (w - 1)))), (4, .int (iI r1)), (5, .int (iI r2)), (6, .int (iI r1))] [.int (iI 1), .int (iI ((a 22) (r1)))] _ _ _ _
                refine pm_c_ne (t := 225) pm_a209_220 rfl ⟨by omega, by omega⟩ ⟨by omega, by omega⟩ (fun h_15 => ?_) (fun h_15 => ?_)
                · skip
                  show pm_E _ _ _ 225 [(0, .ref 18), (1, .int (iI i)), (2, .int (iI w)), (3, .int (iI ((a 23) (w - 1)))), (4, .int (iI r1)), (5, .int (iI r2)), (6, .int (iI r1))] [] _ _ _ _
                  refine pm_e_sim pm_a209_225 rfl ?_
                  show pm_E _ _ _ 226 [(0, .ref 18), (1, .int (iI i)), (2, .int (iI w)), (3, .int (iI ((a 23) (w - 1)))), (4, .int (iI r1)), (5, .int (iI r2)), (6, .int (iI r1))] [.ref 18] _ _ _ _
                  refine pm_i_get pm_a209_226 rfl (mh_get (j := 0) hA rfl) rfl ?_
                  show pm_E _ _ _ 229 [(0, .ref 18), (1, .int (iI i)), (2, .int (iI w)), (3, .int (iI ((a 23) (w - 1)))), (4, .int (iI r1)), (5, .int (iI r2)), (6, .int (iI r1))] [.ref 40] _ _ _ _
                  refine pm_e_sim pm_a209_229 rfl ?_
                  show pm_E _ _ _ 231 [(0, .ref 18), (1, .int (iI i)), (2, .int (iI w)), (3, .int (iI ((a 23) (w - 1)))), (4, .int (iI r1)), (5, .int (iI r2)), (6, .int (iI r1))] [.int (iI r1), .ref 40] _ _ _ _
                  refine pm_e_sim pm_a209_231 rfl ?_
                  refine pm_e_top (y := iI 1) (by decide +kernel) ?_
                  show pm_E _ _ _ 232 [(0, .ref 18), (1, .int (iI i)), (2, .int (iI w)), (3, .int (iI ((a 23) (w - 1)))), (4, .int (iI r1)), (5, .int (iI r2)), (6, .int (iI r1))] [.int (iI 1), .int (iI r1), .ref 40] _ _ _ _
                  refine pm_i_ast pm_a209_232 (mh_get (j := 22) hA rfl) (by omega) (by omega) ⟨by omega, by omega⟩ (ma_22 hA _) ?_
                  show pm_E _ _ _ 233 [(0, .ref 18), (1, .int (iI i)), (2, .int (iI w)), (3, .int (iI ((a 23) (w - 1)))), (4, .int (iI r1)), (5, .int (iI r2)), (6, .int (iI r1))] [] _ _ _ _
                  refine pm_e_sim pm_a209_233 rfl ?_
                  show pm_E _ _ _ 234 [(0, .ref 18), (1, .int (iI i)), (2, .int (iI w)), (3, .int (iI ((a 23) (w - 1)))), (4, .int (iI r1)), (5, .int (iI r2)), (6, .int (iI r1))] [.ref 18] _ _ _ _
                  refine pm_i_get pm_a209_234 rfl (mh_get (j := 0) hA rfl) rfl ?_
                  show pm_E _ _ _ 237 [(0, .ref 18), (1, .int (iI i)), (2, .int (iI w)), (3, .int (iI ((a 23) (w - 1)))), (4, .int (iI r1)), (5, .int (iI r2)), (6, .int (iI r1))] [.ref 41] _ _ _ _
                  refine pm_e_sim pm_a209_237 rfl ?_
                  show pm_E _ _ _ 238 [(0, .ref 18), (1, .int (iI i)), (2, .int (iI w)), (3, .int (iI ((a 23) (w - 1)))), (4, .int (iI r1)), (5, .int (iI r2)), (6, .int (iI r1))] [.int (iI w), .ref 41] _ _ _ _
                  refine pm_e_sim pm_a209_238 rfl ?_
                  show pm_E _ _ _ 240 [(0, .ref 18), (1, .int (iI i)), (2, .int (iI w)), (3, .int (iI ((a 23) (w - 1)))), (4, .int (iI r1)), (5, .int (iI r2)), (6, .int (iI r1))] [.int (iI r1), .int (iI w), .ref 41] _ _ _ _
                  refine pm_i_ast pm_a209_240 (mh_get (j := 23) hA rfl) (by omega) (by omega) ⟨by omega, by omega⟩ (ma_23 hA _) ?_
                  show pm_E _ _ _ 241 [(0, .ref 18), (1, .int (iI i)), (2, .int (iI w)), (3, .int (iI ((a 23) (w - 1)))), (4, .int (iI r1)), (5, .int (iI r2)), (6, .int (iI r1))] [] _ _ _ _
                  refine pm_e_inc (y := iI (w + 1)) pm_a209_241 rfl (iI_add _ _) (by decide +kernel) rfl ?_
                  show pm_E _ _ _ 244 [(0, .ref 18), (1, .int (iI i)), (2, .int (iI (w + 1))), (3, .int (iI ((a 23) (w - 1)))), (4, .int (iI r1)), (5, .int (iI r2)), (6, .int (iI r1))] [] _ _ _ _
                  refine pm_e_goto pm_a209_244 rfl ?_
                  show pm_E _ _ _ 73 [(0, .ref 18), (1, .int (iI i)), (2, .int (iI (w + 1))), (3, .int (iI ((a 23) (w - 1)))), (4, .int (iI r1)), (5, .int (iI r2)), (6, .int (iI r1))] [] _ _ _ _
                  show pm_E _ _ _ 73 ([(0, .ref 18), (1, .int (iI i)), (2, .int (iI (w + 1)))] ++ [(3, .int (iI ((a 23) (w - 1)))), (4, .int (iI r1)), (5, .int (iI r2)), (6, .int (iI r1))]) [] _ _ _ _
                  refine pm_e_more [(3, .int (iI ((a 23) (w - 1)))), (4, .int (iI r1)), (5, .int (iI r2)), (6, .int (iI r1))] (show ([0, 1, 2, 3, 4, 5, 6] : List Nat).Nodup from by decide) ?_
                  have h9 := cn0_up (B := a 22) (g := r1) (y := 1) (by omega) (by omega) (n := (s 32).toNat) (by omega) (by omega)
                  have h8 := cn0_le (B := updI (a 22) r1 1) (n := (s 32).toNat)
                  refine ih (w + 1) _ (by omega) (fun j h1 h2 => by simp [updA, h1, h2, fA j h1 h2]) (fun j z y => ?_) (fun j z y => ?_) ?_ k kf ?_
                  · show 0 ≤ updI (a 22) _ 1 j ∧ updI (a 22) _ 1 j ≤ 2; have := hmk j z y; unfold updI; split <;> omega
                  · show 0 ≤ updI (a 23) w _ j ∧ updI (a 23) w _ j < _
                    by_cases hj : j = w
                    · rw [hj, updI_s]; omega
                    · rw [updI_n _ _ hj]; exact hpt j z (by omega)
                  · show w + 1 + cn0 (updI (a 22) r1 1) _ ≤ _; omega
                  · show 2 * cn0 (updI (a 22) r1 1) _ + (w + 1) < _; omega
                · skip
                  show pm_E _ _ _ 223 [(0, .ref 18), (1, .int (iI i)), (2, .int (iI w)), (3, .int (iI ((a 23) (w - 1)))), (4, .int (iI r1)), (5, .int (iI r2)), (6, .int (iI r1))] [] _ _ _ _
                  refine pm_e_sim pm_a209_223 rfl ?_
                  refine pm_e_top (y := iI 0) (by decide +kernel) ?_
                  show pm_E _ _ _ 224 [(0, .ref 18), (1, .int (iI i)), (2, .int (iI w)), (3, .int (iI ((a 23) (w - 1)))), (4, .int (iI r1)), (5, .int (iI r2)), (6, .int (iI r1))] [.int (iI 0)] _ _ _ _
                  refine pm_e_ret pm_a209_224 rfl rfl rfl rfl rfl rfl rfl rfl ?_
                  exact kf a fA
              · skip
                show pm_E _ _ _ 199 [(0, .ref 18), (1, .int (iI i)), (2, .int (iI w)), (3, .int (iI ((a 23) (w - 1)))), (4, .int (iI r1)), (5, .int (iI r2)), (6, .int (iI r1))] [] _ _ _ _
                refine pm_e_sim pm_a209_199 rfl ?_
                show pm_E _ _ _ 200 [(0, .ref 18), (1, .int (iI i)), (2, .int (iI w)), (3, .int (iI ((a 23) (w - 1)))), (4, .int (iI r1)), (5, .int (iI r2)), (6, .int (iI r1))] [.ref 18] _ _ _ _
                refine pm_i_get pm_a209_200 rfl (mh_get (j := 0) hA rfl) rfl ?_
                show pm_E _ _ _ 203 [(0, .ref 18), (1, .int (iI i)), (2, .int (iI w)), (3, .int (iI ((a 23) (w - 1)))), (4, .int (iI r1)), (5, .int (iI r2)), (6, .int (iI r1))] [.ref 40] _ _ _ _
                refine pm_e_sim pm_a209_203 rfl ?_
                show pm_E _ _ _ 204 [(0, .ref 18), (1, .int (iI i)), (2, .int (iI w)), (3, .int (iI ((a 23) (w - 1)))), (4, .int (iI r1)), (5, .int (iI r2)), (6, .int (iI r1))] [.int (iI ((a 23) (w - 1))), .ref 40] _ _ _ _
                refine pm_e_sim pm_a209_204 rfl ?_
                refine pm_e_top (y := iI 2) (by decide +kernel) ?_
                show pm_E _ _ _ 205 [(0, .ref 18), (1, .int (iI i)), (2, .int (iI w)), (3, .int (iI ((a 23) (w - 1)))), (4, .int (iI r1)), (5, .int (iI r2)), (6, .int (iI r1))] [.int (iI 2), .int (iI ((a 23) (w - 1))), .ref 40] _ _ _ _
                refine pm_i_ast pm_a209_205 (mh_get (j := 22) hA rfl) (by omega) (by omega) ⟨by omega, by omega⟩ (ma_22 hA _) ?_
                show pm_E _ _ _ 206 [(0, .ref 18), (1, .int (iI i)), (2, .int (iI w)), (3, .int (iI ((a 23) (w - 1)))), (4, .int (iI r1)), (5, .int (iI r2)), (6, .int (iI r1))] [] _ _ _ _
                refine pm_e_inc (y := iI (w + (-1))) pm_a209_206 rfl (iI_add _ _) (by decide +kernel) rfl ?_
                show pm_E _ _ _ 209 [(0, .ref 18), (1, .int (iI i)), (2, .int (iI (w + (-1)))), (3, .int (iI ((a 23) (w - 1)))), (4, .int (iI r1)), (5, .int (iI r2)), (6, .int (iI r1))] [] _ _ _ _
                refine pm_e_goto pm_a209_209 rfl ?_
                show pm_E _ _ _ 244 [(0, .ref 18), (1, .int (iI i)), (2, .int (iI (w + (-1)))), (3, .int (iI ((a 23) (w - 1)))), (4, .int (iI r1)), (5, .int (iI r2)), (6, .int (iI r1))] [] _ _ _ _
                refine pm_e_goto pm_a209_244 rfl ?_
                show pm_E _ _ _ 73 [(0, .ref 18), (1, .int (iI i)), (2, .int (iI (w + (-1)))), (3, .int (iI ((a 23) (w - 1)))), (4, .int (iI r1)), (5, .int (iI r2)), (6, .int (iI r1))] [] _ _ _ _
                show pm_E _ _ _ 73 ([(0, .ref 18), (1, .int (iI i)), (2, .int (iI (w + (-1))))] ++ [(3, .int (iI ((a 23) (w - 1)))), (4, .int (iI r1)), (5, .int (iI r2)), (6, .int (iI r1))]) [] _ _ _ _
                refine pm_e_more [(3, .int (iI ((a 23) (w - 1)))), (4, .int (iI r1)), (5, .int (iI r2)), (6, .int (iI r1))] (show ([0, 1, 2, 3, 4, 5, 6] : List Nat).Nodup from by decide) ?_
                have h9 := cn0_dn (B := a 22) (g := (a 23) (w - 1)) (y := 2) (by omega) (n := (s 32).toNat)
                refine ih (w + -1) _ (by omega) (fun j h1 h2 => by simp [updA, h1, fA j h1 h2]) (fun j z y => ?_) (fun j z y => hpt j z (by omega)) ?_ k kf ?_
                · show 0 ≤ updI (a 22) _ 2 j ∧ updI (a 22) _ 2 j ≤ 2; have := hmk j z y; unfold updI; split <;> omega
                · show w + -1 + cn0 (updI (a 22) ((a 23) (w - 1)) 2) _ ≤ _; omega
                · show 2 * cn0 (updI (a 22) ((a 23) (w - 1)) 2) _ + (w + -1) < _; omega
        · skip
          show pm_E _ _ _ 125 [(0, .ref 18), (1, .int (iI i)), (2, .int (iI w)), (3, .int (iI ((a 23) (w - 1)))), (4, .int (iI r1))] [] _ _ _ _
          refine pm_e_sim pm_a209_125 rfl ?_
          refine pm_e_top (y := iI (-4)) (by decide +kernel) ?_
          show pm_E _ _ _ 127 [(0, .ref 18), (1, .int (iI i)), (2, .int (iI w)), (3, .int (iI ((a 23) (w - 1)))), (4, .int (iI r1))] [.int (iI (-4))] _ _ _ _
          refine pm_e_goto pm_a209_127 rfl ?_
          show pm_E _ _ _ 140 [(0, .ref 18), (1, .int (iI i)), (2, .int (iI w)), (3, .int (iI ((a 23) (w - 1)))), (4, .int (iI r1))] [.int (iI (-4))] _ _ _ _
          refine pm_e_sim pm_a209_140 rfl ?_
          show pm_E _ _ _ 142 [(0, .ref 18), (1, .int (iI i)), (2, .int (iI w)), (3, .int (iI ((a 23) (w - 1)))), (4, .int (iI r1)), (5, .int (iI (-4)))] [] _ _ _ _
          refine pm_e_sim pm_a209_142 rfl ?_
          show pm_E _ _ _ 144 [(0, .ref 18), (1, .int (iI i)), (2, .int (iI w)), (3, .int (iI ((a 23) (w - 1)))), (4, .int (iI r1)), (5, .int (iI (-4)))] [.int (iI r1)] _ _ _ _
          refine pm_e_sim pm_a209_144 rfl ?_
          refine pm_e_top (y := iI (-4)) (by decide +kernel) ?_
          show pm_E _ _ _ 146 [(0, .ref 18), (1, .int (iI i)), (2, .int (iI w)), (3, .int (iI ((a 23) (w - 1)))), (4, .int (iI r1)), (5, .int (iI (-4)))] [.int (iI (-4)), .int (iI r1)] _ _ _ _
          refine pm_c_eq (t := 165) pm_a209_146 rfl ⟨by omega, by omega⟩ ⟨by omega, by omega⟩ (fun h_16 => ?_) (fun h_16 => ?_)
          · skip
            show pm_E _ _ _ 165 [(0, .ref 18), (1, .int (iI i)), (2, .int (iI w)), (3, .int (iI ((a 23) (w - 1)))), (4, .int (iI r1)), (5, .int (iI (-4)))] [] _ _ _ _
            refine pm_e_sim pm_a209_165 rfl ?_
            show pm_E _ _ _ 167 [(0, .ref 18), (1, .int (iI i)), (2, .int (iI w)), (3, .int (iI ((a 23) (w - 1)))), (4, .int (iI r1)), (5, .int (iI (-4)))] [.int (iI (-4))] _ _ _ _
            refine pm_e_sim pm_a209_167 rfl ?_
            refine pm_e_top (y := iI (-4)) (by decide +kernel) ?_
            show pm_E _ _ _ 169 [(0, .ref 18), (1, .int (iI i)), (2, .int (iI w)), (3, .int (iI ((a 23) (w - 1)))), (4, .int (iI r1)), (5, .int (iI (-4)))] [.int (iI (-4)), .int (iI (-4))] _ _ _ _
            refine pm_e_ict pm_a209_169 rfl (by decide +kernel) ?_
            show pm_E _ _ _ 188 [(0, .ref 18), (1, .int (iI i)), (2, .int (iI w)), (3, .int (iI ((a 23) (w - 1)))), (4, .int (iI r1)), (5, .int (iI (-4)))] [] _ _ _ _
            refine pm_e_sim pm_a209_188 rfl ?_
            refine pm_e_top (y := iI (-4)) (by decide +kernel) ?_
            show pm_E _ _ _ 190 [(0, .ref 18), (1, .int (iI i)), (2, .int (iI w)), (3, .int (iI ((a 23) (w - 1)))), (4, .int (iI r1)), (5, .int (iI (-4)))] [.int (iI (-4))] _ _ _ _
            refine pm_e_sim pm_a209_190 rfl ?_
            show pm_E _ _ _ 192 [(0, .ref 18), (1, .int (iI i)), (2, .int (iI w)), (3, .int (iI ((a 23) (w - 1)))), (4, .int (iI r1)), (5, .int (iI (-4))), (6, .int (iI (-4)))] [] _ _ _ _
            refine pm_e_sim pm_a209_192 rfl ?_
            show pm_E _ _ _ 194 [(0, .ref 18), (1, .int (iI i)), (2, .int (iI w)), (3, .int (iI ((a 23) (w - 1)))), (4, .int (iI r1)), (5, .int (iI (-4))), (6, .int (iI (-4)))] [.int (iI (-4))] _ _ _ _
            refine pm_e_sim pm_a209_194 rfl ?_
            refine pm_e_top (y := iI (-4)) (by decide +kernel) ?_
            show pm_E _ _ _ 196 [(0, .ref 18), (1, .int (iI i)), (2, .int (iI w)), (3, .int (iI ((a 23) (w - 1)))), (4, .int (iI r1)), (5, .int (iI (-4))), (6, .int (iI (-4)))] [.int (iI (-4)), .int (iI (-4))] _ _ _ _
            refine pm_e_icf pm_a209_196 rfl (by decide +kernel) ?_
            show pm_E _ _ _ 199 [(0, .ref 18), (1, .int (iI i)), (2, .int (iI w)), (3, .int (iI ((a 23) (w - 1)))), (4, .int (iI r1)), (5, .int (iI (-4))), (6, .int (iI (-4)))] [] _ _ _ _
            refine pm_e_sim pm_a209_199 rfl ?_
            show pm_E _ _ _ 200 [(0, .ref 18), (1, .int (iI i)), (2, .int (iI w)), (3, .int (iI ((a 23) (w - 1)))), (4, .int (iI r1)), (5, .int (iI (-4))), (6, .int (iI (-4)))] [.ref 18] _ _ _ _
            refine pm_i_get pm_a209_200 rfl (mh_get (j := 0) hA rfl) rfl ?_
            show pm_E _ _ _ 203 [(0, .ref 18), (1, .int (iI i)), (2, .int (iI w)), (3, .int (iI ((a 23) (w - 1)))), (4, .int (iI r1)), (5, .int (iI (-4))), (6, .int (iI (-4)))] [.ref 40] _ _ _ _
            refine pm_e_sim pm_a209_203 rfl ?_
            show pm_E _ _ _ 204 [(0, .ref 18), (1, .int (iI i)), (2, .int (iI w)), (3, .int (iI ((a 23) (w - 1)))), (4, .int (iI r1)), (5, .int (iI (-4))), (6, .int (iI (-4)))] [.int (iI ((a 23) (w - 1))), .ref 40] _ _ _ _
            refine pm_e_sim pm_a209_204 rfl ?_
            refine pm_e_top (y := iI 2) (by decide +kernel) ?_
            show pm_E _ _ _ 205 [(0, .ref 18), (1, .int (iI i)), (2, .int (iI w)), (3, .int (iI ((a 23) (w - 1)))), (4, .int (iI r1)), (5, .int (iI (-4))), (6, .int (iI (-4)))] [.int (iI 2), .int (iI ((a 23) (w - 1))), .ref 40] _ _ _ _
            refine pm_i_ast pm_a209_205 (mh_get (j := 22) hA rfl) (by omega) (by omega) ⟨by omega, by omega⟩ (ma_22 hA _) ?_
            show pm_E _ _ _ 206 [(0, .ref 18), (1, .int (iI i)), (2, .int (iI w)), (3, .int (iI ((a 23) (w - 1)))), (4, .int (iI r1)), (5, .int (iI (-4))), (6, .int (iI (-4)))] [] _ _ _ _
            refine pm_e_inc (y := iI (w + (-1))) pm_a209_206 rfl (iI_add _ _) (by decide +kernel) rfl ?_
            show pm_E _ _ _ 209 [(0, .ref 18), (1, .int (iI i)), (2, .int (iI (w + (-1)))), (3, .int (iI ((a 23) (w - 1)))), (4, .int (iI r1)), (5, .int (iI (-4))), (6, .int (iI (-4)))] [] _ _ _ _
            refine pm_e_goto pm_a209_209 rfl ?_
            show pm_E _ _ _ 244 [(0, .ref 18), (1, .int (iI i)), (2, .int (iI (w + (-1)))), (3, .int (iI ((a 23) (w - 1)))), (4, .int (iI r1)), (5, .int (iI (-4))), (6, .int (iI (-4)))] [] _ _ _ _
            refine pm_e_goto pm_a209_244 rfl ?_
            show pm_E _ _ _ 73 [(0, .ref 18), (1, .int (iI i)), (2, .int (iI (w + (-1)))), (3, .int (iI ((a 23) (w - 1)))), (4, .int (iI r1)), (5, .int (iI (-4))), (6, .int (iI (-4)))] [] _ _ _ _
            show pm_E _ _ _ 73 ([(0, .ref 18), (1, .int (iI i)), (2, .int (iI (w + (-1))))] ++ [(3, .int (iI ((a 23) (w - 1)))), (4, .int (iI r1)), (5, .int (iI (-4))), (6, .int (iI (-4)))]) [] _ _ _ _
            refine pm_e_more [(3, .int (iI ((a 23) (w - 1)))), (4, .int (iI r1)), (5, .int (iI (-4))), (6, .int (iI (-4)))] (show ([0, 1, 2, 3, 4, 5, 6] : List Nat).Nodup from by decide) ?_
            have h9 := cn0_dn (B := a 22) (g := (a 23) (w - 1)) (y := 2) (by omega) (n := (s 32).toNat)
            refine ih (w + -1) _ (by omega) (fun j h1 h2 => by simp [updA, h1, fA j h1 h2]) (fun j z y => ?_) (fun j z y => hpt j z (by omega)) ?_ k kf ?_
            · show 0 ≤ updI (a 22) _ 2 j ∧ updI (a 22) _ 2 j ≤ 2; have := hmk j z y; unfold updI; split <;> omega
            · show w + -1 + cn0 (updI (a 22) ((a 23) (w - 1)) 2) _ ≤ _; omega
            · show 2 * cn0 (updI (a 22) ((a 23) (w - 1)) 2) _ + (w + -1) < _; omega
          · skip
            show pm_E _ _ _ 149 [(0, .ref 18), (1, .int (iI i)), (2, .int (iI w)), (3, .int (iI ((a 23) (w - 1)))), (4, .int (iI r1)), (5, .int (iI (-4)))] [] _ _ _ _
            refine pm_e_sim pm_a209_149 rfl ?_
            show pm_E _ _ _ 150 [(0, .ref 18), (1, .int (iI i)), (2, .int (iI w)), (3, .int (iI ((a 23) (w - 1)))), (4, .int (iI r1)), (5, .int (iI (-4)))] [.ref 18] _ _ _ _
            refine pm_i_get pm_a209_150 rfl (mh_get (j := 0) hA rfl) rfl ?_
            show pm_E _ _ _ 153 [(0, .ref 18), (1, .int (iI i)), (2, .int (iI w)), (3, .int (iI ((a 23) (w - 1)))), (4, .int (iI r1)), (5, .int (iI (-4)))] [.ref 40] _ _ _ _
            refine pm_e_sim pm_a209_153 rfl ?_
            show pm_E _ _ _ 155 [(0, .ref 18), (1, .int (iI i)), (2, .int (iI w)), (3, .int (iI ((a 23) (w - 1)))), (4, .int (iI r1)), (5, .int (iI (-4)))] [.int (iI r1), .ref 40] _ _ _ _
            refine pm_i_ald pm_a209_155 (mh_get (j := 22) hA rfl) (by omega) (by omega) ⟨by omega, by omega⟩ ?_
            show pm_E _ _ _ 156 [(0, .ref 18), (1, .int (iI i)), (2, .int (iI w)), (3, .int (iI ((a 23) (w - 1)))), (4, .int (iI r1)), (5, .int (iI (-4)))] [.int (iI ((a 22) (r1)))] _ _ _ _
            refine pm_e_sim pm_a209_156 rfl ?_
            refine pm_e_top (y := iI 2) (by decide +kernel) ?_
            show pm_E _ _ _ 157 [(0, .ref 18), (1, .int (iI i)), (2, .int (iI w)), (3, .int (iI ((a 23) (w - 1)))), (4, .int (iI r1)), (5, .int (iI (-4)))] [.int (iI 2), .int (iI ((a 22) (r1)))] _ _ _ _
            refine pm_c_ge (t := 165) pm_a209_157 rfl ⟨by omega, by omega⟩ ⟨by omega, by omega⟩ (fun h_17 => ?_) (fun h_17 => ?_)
            · skip
              show pm_E _ _ _ 165 [(0, .ref 18), (1, .int (iI i)), (2, .int (iI w)), (3, .int (iI ((a 23) (w - 1)))), (4, .int (iI r1)), (5, .int (iI (-4)))] [] _ _ _ _
              refine pm_e_sim pm_a209_165 rfl ?_
              show pm_E _ _ _ 167 [(0, .ref 18), (1, .int (iI i)), (2, .int (iI w)), (3, .int (iI ((a 23) (w - 1)))), (4, .int (iI r1)), (5, .int (iI (-4)))] [.int (iI (-4))] _ _ _ _
              refine pm_e_sim pm_a209_167 rfl ?_
              refine pm_e_top (y := iI (-4)) (by decide +kernel) ?_
              show pm_E _ _ _ 169 [(0, .ref 18), (1, .int (iI i)), (2, .int (iI w)), (3, .int (iI ((a 23) (w - 1)))), (4, .int (iI r1)), (5, .int (iI (-4)))] [.int (iI (-4)), .int (iI (-4))] _ _ _ _
              refine pm_e_ict pm_a209_169 rfl (by decide +kernel) ?_
              show pm_E _ _ _ 188 [(0, .ref 18), (1, .int (iI i)), (2, .int (iI w)), (3, .int (iI ((a 23) (w - 1)))), (4, .int (iI r1)), (5, .int (iI (-4)))] [] _ _ _ _
              refine pm_e_sim pm_a209_188 rfl ?_
              refine pm_e_top (y := iI (-4)) (by decide +kernel) ?_
              show pm_E _ _ _ 190 [(0, .ref 18), (1, .int (iI i)), (2, .int (iI w)), (3, .int (iI ((a 23) (w - 1)))), (4, .int (iI r1)), (5, .int (iI (-4)))] [.int (iI (-4))] _ _ _ _
              refine pm_e_sim pm_a209_190 rfl ?_
              show pm_E _ _ _ 192 [(0, .ref 18), (1, .int (iI i)), (2, .int (iI w)), (3, .int (iI ((a 23) (w - 1)))), (4, .int (iI r1)), (5, .int (iI (-4))), (6, .int (iI (-4)))] [] _ _ _ _
              refine pm_e_sim pm_a209_192 rfl ?_
              show pm_E _ _ _ 194 [(0, .ref 18), (1, .int (iI i)), (2, .int (iI w)), (3, .int (iI ((a 23) (w - 1)))), (4, .int (iI r1)), (5, .int (iI (-4))), (6, .int (iI (-4)))] [.int (iI (-4))] _ _ _ _
              refine pm_e_sim pm_a209_194 rfl ?_
              refine pm_e_top (y := iI (-4)) (by decide +kernel) ?_
              show pm_E _ _ _ 196 [(0, .ref 18), (1, .int (iI i)), (2, .int (iI w)), (3, .int (iI ((a 23) (w - 1)))), (4, .int (iI r1)), (5, .int (iI (-4))), (6, .int (iI (-4)))] [.int (iI (-4)), .int (iI (-4))] _ _ _ _
              refine pm_e_icf pm_a209_196 rfl (by decide +kernel) ?_
              show pm_E _ _ _ 199 [(0, .ref 18), (1, .int (iI i)), (2, .int (iI w)), (3, .int (iI ((a 23) (w - 1)))), (4, .int (iI r1)), (5, .int (iI (-4))), (6, .int (iI (-4)))] [] _ _ _ _
              refine pm_e_sim pm_a209_199 rfl ?_
              show pm_E _ _ _ 200 [(0, .ref 18), (1, .int (iI i)), (2, .int (iI w)), (3, .int (iI ((a 23) (w - 1)))), (4, .int (iI r1)), (5, .int (iI (-4))), (6, .int (iI (-4)))] [.ref 18] _ _ _ _
              refine pm_i_get pm_a209_200 rfl (mh_get (j := 0) hA rfl) rfl ?_
              show pm_E _ _ _ 203 [(0, .ref 18), (1, .int (iI i)), (2, .int (iI w)), (3, .int (iI ((a 23) (w - 1)))), (4, .int (iI r1)), (5, .int (iI (-4))), (6, .int (iI (-4)))] [.ref 40] _ _ _ _
              refine pm_e_sim pm_a209_203 rfl ?_
              show pm_E _ _ _ 204 [(0, .ref 18), (1, .int (iI i)), (2, .int (iI w)), (3, .int (iI ((a 23) (w - 1)))), (4, .int (iI r1)), (5, .int (iI (-4))), (6, .int (iI (-4)))] [.int (iI ((a 23) (w - 1))), .ref 40] _ _ _ _
              refine pm_e_sim pm_a209_204 rfl ?_
              refine pm_e_top (y := iI 2) (by decide +kernel) ?_
              show pm_E _ _ _ 205 [(0, .ref 18), (1, .int (iI i)), (2, .int (iI w)), (3, .int (iI ((a 23) (w - 1)))), (4, .int (iI r1)), (5, .int (iI (-4))), (6, .int (iI (-4)))] [.int (iI 2), .int (iI ((a 23) (w - 1))), .ref 40] _ _ _ _
              refine pm_i_ast pm_a209_205 (mh_get (j := 22) hA rfl) (by omega) (by omega) ⟨by omega, by omega⟩ (ma_22 hA _) ?_
              show pm_E _ _ _ 206 [(0, .ref 18), (1, .int (iI i)), (2, .int (iI w)), (3, .int (iI ((a 23) (w - 1)))), (4, .int (iI r1)), (5, .int (iI (-4))), (6, .int (iI (-4)))] [] _ _ _ _
              refine pm_e_inc (y := iI (w + (-1))) pm_a209_206 rfl (iI_add _ _) (by decide +kernel) rfl ?_
              show pm_E _ _ _ 209 [(0, .ref 18), (1, .int (iI i)), (2, .int (iI (w + (-1)))), (3, .int (iI ((a 23) (w - 1)))), (4, .int (iI r1)), (5, .int (iI (-4))), (6, .int (iI (-4)))] [] _ _ _ _
              refine pm_e_goto pm_a209_209 rfl ?_
              show pm_E _ _ _ 244 [(0, .ref 18), (1, .int (iI i)), (2, .int (iI (w + (-1)))), (3, .int (iI ((a 23) (w - 1)))), (4, .int (iI r1)), (5, .int (iI (-4))), (6, .int (iI (-4)))] [] _ _ _ _
              refine pm_e_goto pm_a209_244 rfl ?_
              show pm_E _ _ _ 73 [(0, .ref 18), (1, .int (iI i)), (2, .int (iI (w + (-1)))), (3, .int (iI ((a 23) (w - 1)))), (4, .int (iI r1)), (5, .int (iI (-4))), (6, .int (iI (-4)))] [] _ _ _ _
              show pm_E _ _ _ 73 ([(0, .ref 18), (1, .int (iI i)), (2, .int (iI (w + (-1))))] ++ [(3, .int (iI ((a 23) (w - 1)))), (4, .int (iI r1)), (5, .int (iI (-4))), (6, .int (iI (-4)))]) [] _ _ _ _
              refine pm_e_more [(3, .int (iI ((a 23) (w - 1)))), (4, .int (iI r1)), (5, .int (iI (-4))), (6, .int (iI (-4)))] (show ([0, 1, 2, 3, 4, 5, 6] : List Nat).Nodup from by decide) ?_
              have h9 := cn0_dn (B := a 22) (g := (a 23) (w - 1)) (y := 2) (by omega) (n := (s 32).toNat)
              refine ih (w + -1) _ (by omega) (fun j h1 h2 => by simp [updA, h1, fA j h1 h2]) (fun j z y => ?_) (fun j z y => hpt j z (by omega)) ?_ k kf ?_
              · show 0 ≤ updI (a 22) _ 2 j ∧ updI (a 22) _ 2 j ≤ 2; have := hmk j z y; unfold updI; split <;> omega
              · show w + -1 + cn0 (updI (a 22) ((a 23) (w - 1)) 2) _ ≤ _; omega
              · show 2 * cn0 (updI (a 22) ((a 23) (w - 1)) 2) _ + (w + -1) < _; omega
            · skip
              show pm_E _ _ _ 160 [(0, .ref 18), (1, .int (iI i)), (2, .int (iI w)), (3, .int (iI ((a 23) (w - 1)))), (4, .int (iI r1)), (5, .int (iI (-4)))] [] _ _ _ _
              refine pm_e_sim pm_a209_160 rfl ?_
              show pm_E _ _ _ 162 [(0, .ref 18), (1, .int (iI i)), (2, .int (iI w)), (3, .int (iI ((a 23) (w - 1)))), (4, .int (iI r1)), (5, .int (iI (-4)))] [.int (iI r1)] _ _ _ _
              refine pm_e_goto pm_a209_162 rfl ?_
              show pm_E _ _ _ 190 [(0, .ref 18), (1, .int (iI i)), (2, .int (iI w)), (3, .int (iI ((a 23) (w - 1)))), (4, .int (iI r1)), (5, .int (iI (-4)))] [.int (iI r1)] _ _ _ _
              refine pm_e_sim pm_a209_190 rfl ?_
              show pm_E _ _ _ 192 [(0, .ref 18), (1, .int (iI i)), (2, .int (iI w)), (3, .int (iI ((a 23) (w - 1)))), (4, .int (iI r1)), (5, .int (iI (-4))), (6, .int (iI r1))] [] _ _ _ _
              refine pm_e_sim pm_a209_192 rfl ?_
              show pm_E _ _ _ 194 [(0, .ref 18), (1, .int (iI i)), (2, .int (iI w)), (3, .int (iI ((a 23) (w - 1)))), (4, .int (iI r1)), (5, .int (iI (-4))), (6, .int (iI r1))] [.int (iI r1)] _ _ _ _
              refine pm_e_sim pm_a209_194 rfl ?_
              refine pm_e_top (y := iI (-4)) (by decide +kernel) ?_
              show pm_E _ _ _ 196 [(0, .ref 18), (1, .int (iI i)), (2, .int (iI w)), (3, .int (iI ((a 23) (w - 1)))), (4, .int (iI r1)), (5, .int (iI (-4))), (6, .int (iI r1))] [.int (iI (-4)), .int (iI r1)] _ _ _ _
              refine pm_c_ne (t := 212) pm_a209_196 rfl ⟨by omega, by omega⟩ ⟨by omega, by omega⟩ (fun h_18 => ?_) (fun h_18 => ?_)
              · skip
                show pm_E _ _ _ 212 [(0, .ref 18), (1, .int (iI i)), (2, .int (iI w)), (3, .int (iI ((a 23) (w - 1)))), (4, .int (iI r1)), (5, .int (iI (-4))), (6, .int (iI r1))] [] _ _ _ _
                refine pm_e_sim pm_a209_212 rfl ?_
                show pm_E _ _ _ 213 [(0, .ref 18), (1, .int (iI i)), (2, .int (iI w)), (3, .int (iI ((a 23) (w - 1)))), (4, .int (iI r1)), (5, .int (iI (-4))), (6, .int (iI r1))] [.ref 18] _ _ _ _
                refine pm_i_get pm_a209_213 rfl (mh_get (j := 0) hA rfl) rfl ?_
                show pm_E _ _ _ 216 [(0, .ref 18), (1, .int (iI i)), (2, .int (iI w)), (3, .int (iI ((a 23) (w - 1)))), (4, .int (iI r1)), (5, .int (iI (-4))), (6, .int (iI r1))] [.ref 40] _ _ _ _
                refine pm_e_sim pm_a209_216 rfl ?_
                show pm_E _ _ _ 218 [(0, .ref 18), (1, .int (iI i)), (2, .int (iI w)), (3, .int (iI ((a 23) (w - 1)))), (4, .int (iI r1)), (5, .int (iI (-4))), (6, .int (iI r1))] [.int (iI r1), .ref 40] _ _ _ _
                refine pm_i_ald pm_a209_218 (mh_get (j := 22) hA rfl) (by omega) (by omega) ⟨by omega, by omega⟩ ?_
                show pm_E _ _ _ 219 [(0, .ref 18), (1, .int (iI i)), (2, .int (iI w)), (3, .int (iI ((a 23) (w - 1)))), (4, .int (iI r1)), (5, .int (iI (-4))), (6, .int (iI r1))] [.int (iI ((a 22) (r1)))] _ _ _ _
                refine pm_e_sim pm_a209_219 rfl ?_
                refine pm_e_top (y := iI 1) (by decide +kernel) ?_
                show pm_E _ _ _ 220 [(0, .ref 18), (1, .int (iI i)), (2, .int (iI w)), (3, .int (iI ((a 23) (w - 1)))), (4, .int (iI r1)), (5, .int (iI (-4))), (6, .int (iI r1))] [.int (iI 1), .int (iI ((a 22) (r1)))] _ _ _ _
                refine pm_c_ne (t := 225) pm_a209_220 rfl ⟨by omega, by omega⟩ ⟨by omega, by omega⟩ (fun h_19 => ?_) (fun h_19 => ?_)
                · skip
                  show pm_E _ _ _ 225 [(0, .ref 18), (1, .int (iI i)), (2, .int (iI w)), (3, .int (iI ((a 23) (w - 1)))), (4, .int (iI r1)), (5, .int (iI (-4))), (6, .int (iI r1))] [] _ _ _ _
                  refine pm_e_sim pm_a209_225 rfl ?_
                  show pm_E _ _ _ 226 [(0, .ref 18), (1, .int (iI i)), (2, .int (iI w)), (3, .int (iI ((a 23) (w - 1)))), (4, .int (iI r1)), (5, .int (iI (-4))), (6, .int (iI r1))] [.ref 18] _ _ _ _
                  refine pm_i_get pm_a209_226 rfl (mh_get (j := 0) hA rfl) rfl ?_
                  show pm_E _ _ _ 229 [(0, .ref 18), (1, .int (iI i)), (2, .int (iI w)), (3, .int (iI ((a 23) (w - 1)))), (4, .int (iI r1)), (5, .int (iI (-4))), (6, .int (iI r1))] [.ref 40] _ _ _ _
                  refine pm_e_sim pm_a209_229 rfl ?_
                  show pm_E _ _ _ 231 [(0, .ref 18), (1, .int (iI i)), (2, .int (iI w)), (3, .int (iI ((a 23) (w - 1)))), (4, .int (iI r1)), (5, .int (iI (-4))), (6, .int (iI r1))] [.int (iI r1), .ref 40] _ _ _ _
                  refine pm_e_sim pm_a209_231 rfl ?_
                  refine pm_e_top (y := iI 1) (by decide +kernel) ?_
                  show pm_E _ _ _ 232 [(0, .ref 18), (1, .int (iI i)), (2, .int (iI w)), (3, .int (iI ((a 23) (w - 1)))), (4, .int (iI r1)), (5, .int (iI (-4))), (6, .int (iI r1))] [.int (iI 1), .int (iI r1), .ref 40] _ _ _ _
                  refine pm_i_ast pm_a209_232 (mh_get (j := 22) hA rfl) (by omega) (by omega) ⟨by omega, by omega⟩ (ma_22 hA _) ?_
                  show pm_E _ _ _ 233 [(0, .ref 18), (1, .int (iI i)), (2, .int (iI w)), (3, .int (iI ((a 23) (w - 1)))), (4, .int (iI r1)), (5, .int (iI (-4))), (6, .int (iI r1))] [] _ _ _ _
                  refine pm_e_sim pm_a209_233 rfl ?_
                  show pm_E _ _ _ 234 [(0, .ref 18), (1, .int (iI i)), (2, .int (iI w)), (3, .int (iI ((a 23) (w - 1)))), (4, .int (iI r1)), (5, .int (iI (-4))), (6, .int (iI r1))] [.ref 18] _ _ _ _
                  refine pm_i_get pm_a209_234 rfl (mh_get (j := 0) hA rfl) rfl ?_
                  show pm_E _ _ _ 237 [(0, .ref 18), (1, .int (iI i)), (2, .int (iI w)), (3, .int (iI ((a 23) (w - 1)))), (4, .int (iI r1)), (5, .int (iI (-4))), (6, .int (iI r1))] [.ref 41] _ _ _ _
                  refine pm_e_sim pm_a209_237 rfl ?_
                  show pm_E _ _ _ 238 [(0, .ref 18), (1, .int (iI i)), (2, .int (iI w)), (3, .int (iI ((a 23) (w - 1)))), (4, .int (iI r1)), (5, .int (iI (-4))), (6, .int (iI r1))] [.int (iI w), .ref 41] _ _ _ _
                  refine pm_e_sim pm_a209_238 rfl ?_
                  show pm_E _ _ _ 240 [(0, .ref 18), (1, .int (iI i)), (2, .int (iI w)), (3, .int (iI ((a 23) (w - 1)))), (4, .int (iI r1)), (5, .int (iI (-4))), (6, .int (iI r1))] [.int (iI r1), .int (iI w), .ref 41] _ _ _ _
                  refine pm_i_ast pm_a209_240 (mh_get (j := 23) hA rfl) (by omega) (by omega) ⟨by omega, by omega⟩ (ma_23 hA _) ?_
                  show pm_E _ _ _ 241 [(0, .ref 18), (1, .int (iI i)), (2, .int (iI w)), (3, .int (iI ((a 23) (w - 1)))), (4, .int (iI r1)), (5, .int (iI (-4))), (6, .int (iI r1))] [] _ _ _ _
                  refine pm_e_inc (y := iI (w + 1)) pm_a209_241 rfl (iI_add _ _) (by decide +kernel) rfl ?_
                  show pm_E _ _ _ 244 [(0, .ref 18), (1, .int (iI i)), (2, .int (iI (w + 1))), (3, .int (iI ((a 23) (w - 1)))), (4, .int (iI r1)), (5, .int (iI (-4))), (6, .int (iI r1))] [] _ _ _ _
                  refine pm_e_goto pm_a209_244 rfl ?_
                  show pm_E _ _ _ 73 [(0, .ref 18), (1, .int (iI i)), (2, .int (iI (w + 1))), (3, .int (iI ((a 23) (w - 1)))), (4, .int (iI r1)), (5, .int (iI (-4))), (6, .int (iI r1))] [] _ _ _ _
                  show pm_E _ _ _ 73 ([(0, .ref 18), (1, .int (iI i)), (2, .int (iI (w + 1)))] ++ [(3, .int (iI ((a 23) (w - 1)))), (4, .int (iI r1)), (5, .int (iI (-4))), (6, .int (iI r1))]) [] _ _ _ _
                  refine pm_e_more [(3, .int (iI ((a 23) (w - 1)))), (4, .int (iI r1)), (5, .int (iI (-4))), (6, .int (iI r1))] (show ([0, 1, 2, 3, 4, 5, 6] : List Nat).Nodup from by decide) ?_
                  have h9 := cn0_up (B := a 22) (g := r1) (y := 1) (by omega) (by omega) (n := (s 32).toNat) (by omega) (by omega)
                  have h8 := cn0_le (B := updI (a 22) r1 1) (n := (s 32).toNat)
                  refine ih (w + 1) _ (by omega) (fun j h1 h2 => by simp [updA, h1, h2, fA j h1 h2]) (fun j z y => ?_) (fun j z y => ?_) ?_ k kf ?_
                  · show 0 ≤ updI (a 22) _ 1 j ∧ updI (a 22) _ 1 j ≤ 2; have := hmk j z y; unfold updI; split <;> omega
                  · show 0 ≤ updI (a 23) w _ j ∧ updI (a 23) w _ j < _
                    by_cases hj : j = w
                    · rw [hj, updI_s]; omega
                    · rw [updI_n _ _ hj]; exact hpt j z (by omega)
                  · show w + 1 + cn0 (updI (a 22) r1 1) _ ≤ _; omega
                  · show 2 * cn0 (updI (a 22) r1 1) _ + (w + 1) < _; omega
                · skip
                  show pm_E _ _ _ 223 [(0, .ref 18), (1, .int (iI i)), (2, .int (iI w)), (3, .int (iI ((a 23) (w - 1)))), (4, .int (iI r1)), (5, .int (iI (-4))), (6, .int (iI r1))] [] _ _ _ _
                  refine pm_e_sim pm_a209_223 rfl ?_
                  refine pm_e_top (y := iI 0) (by decide +kernel) ?_
                  show pm_E _ _ _ 224 [(0, .ref 18), (1, .int (iI i)), (2, .int (iI w)), (3, .int (iI ((a 23) (w - 1)))), (4, .int (iI r1)), (5, .int (iI (-4))), (6, .int (iI r1))] [.int (iI 0)] _ _ _ _
                  refine pm_e_ret pm_a209_224 rfl rfl rfl rfl rfl rfl rfl rfl ?_
                  exact kf a fA
              · skip
                show pm_E _ _ _ 199 [(0, .ref 18), (1, .int (iI i)), (2, .int (iI w)), (3, .int (iI ((a 23) (w - 1)))), (4, .int (iI r1)), (5, .int (iI (-4))), (6, .int (iI r1))] [] _ _ _ _
                refine pm_e_sim pm_a209_199 rfl ?_
                show pm_E _ _ _ 200 [(0, .ref 18), (1, .int (iI i)), (2, .int (iI w)), (3, .int (iI ((a 23) (w - 1)))), (4, .int (iI r1)), (5, .int (iI (-4))), (6, .int (iI r1))] [.ref 18] _ _ _ _
                refine pm_i_get pm_a209_200 rfl (mh_get (j := 0) hA rfl) rfl ?_
                show pm_E _ _ _ 203 [(0, .ref 18), (1, .int (iI i)), (2, .int (iI w)), (3, .int (iI ((a 23) (w - 1)))), (4, .int (iI r1)), (5, .int (iI (-4))), (6, .int (iI r1))] [.ref 40] _ _ _ _
                refine pm_e_sim pm_a209_203 rfl ?_
                show pm_E _ _ _ 204 [(0, .ref 18), (1, .int (iI i)), (2, .int (iI w)), (3, .int (iI ((a 23) (w - 1)))), (4, .int (iI r1)), (5, .int (iI (-4))), (6, .int (iI r1))] [.int (iI ((a 23) (w - 1))), .ref 40] _ _ _ _
                refine pm_e_sim pm_a209_204 rfl ?_
                refine pm_e_top (y := iI 2) (by decide +kernel) ?_
                show pm_E _ _ _ 205 [(0, .ref 18), (1, .int (iI i)), (2, .int (iI w)), (3, .int (iI ((a 23) (w - 1)))), (4, .int (iI r1)), (5, .int (iI (-4))), (6, .int (iI r1))] [.int (iI 2), .int (iI ((a 23) (w - 1))), .ref 40] _ _ _ _
                refine pm_i_ast pm_a209_205 (mh_get (j := 22) hA rfl) (by omega) (by omega) ⟨by omega, by omega⟩ (ma_22 hA _) ?_
                show pm_E _ _ _ 206 [(0, .ref 18), (1, .int (iI i)), (2, .int (iI w)), (3, .int (iI ((a 23) (w - 1)))), (4, .int (iI r1)), (5, .int (iI (-4))), (6, .int (iI r1))] [] _ _ _ _
                refine pm_e_inc (y := iI (w + (-1))) pm_a209_206 rfl (iI_add _ _) (by decide +kernel) rfl ?_
                show pm_E _ _ _ 209 [(0, .ref 18), (1, .int (iI i)), (2, .int (iI (w + (-1)))), (3, .int (iI ((a 23) (w - 1)))), (4, .int (iI r1)), (5, .int (iI (-4))), (6, .int (iI r1))] [] _ _ _ _
                refine pm_e_goto pm_a209_209 rfl ?_
                show pm_E _ _ _ 244 [(0, .ref 18), (1, .int (iI i)), (2, .int (iI (w + (-1)))), (3, .int (iI ((a 23) (w - 1)))), (4, .int (iI r1)), (5, .int (iI (-4))), (6, .int (iI r1))] [] _ _ _ _
                refine pm_e_goto pm_a209_244 rfl ?_
                show pm_E _ _ _ 73 [(0, .ref 18), (1, .int (iI i)), (2, .int (iI (w + (-1)))), (3, .int (iI ((a 23) (w - 1)))), (4, .int (iI r1)), (5, .int (iI (-4))), (6, .int (iI r1))] [] _ _ _ _
                show pm_E _ _ _ 73 ([(0, .ref 18), (1, .int (iI i)), (2, .int (iI (w + (-1))))] ++ [(3, .int (iI ((a 23) (w - 1)))), (4, .int (iI r1)), (5, .int (iI (-4))), (6, .int (iI r1))]) [] _ _ _ _
                refine pm_e_more [(3, .int (iI ((a 23) (w - 1)))), (4, .int (iI r1)), (5, .int (iI (-4))), (6, .int (iI r1))] (show ([0, 1, 2, 3, 4, 5, 6] : List Nat).Nodup from by decide) ?_
                have h9 := cn0_dn (B := a 22) (g := (a 23) (w - 1)) (y := 2) (by omega) (n := (s 32).toNat)
                refine ih (w + -1) _ (by omega) (fun j h1 h2 => by simp [updA, h1, fA j h1 h2]) (fun j z y => ?_) (fun j z y => hpt j z (by omega)) ?_ k kf ?_
                · show 0 ≤ updI (a 22) _ 2 j ∧ updI (a 22) _ 2 j ≤ 2; have := hmk j z y; unfold updI; split <;> omega
                · show w + -1 + cn0 (updI (a 22) ((a 23) (w - 1)) 2) _ ≤ _; omega
                · show 2 * cn0 (updI (a 22) ((a 23) (w - 1)) 2) _ + (w + -1) < _; omega
      · skip
        show pm_E _ _ _ 97 [(0, .ref 18), (1, .int (iI i)), (2, .int (iI w)), (3, .int (iI ((a 23) (w - 1))))] [] _ _ _ _
        refine pm_e_sim pm_a209_97 rfl ?_
        refine pm_e_top (y := iI (-4)) (by decide +kernel) ?_
        show pm_E _ _ _ 99 [(0, .ref 18), (1, .int (iI i)), (2, .int (iI w)), (3, .int (iI ((a 23) (w - 1))))] [.int (iI (-4))] _ _ _ _
        refine pm_e_goto pm_a209_99 rfl ?_
        show pm_E _ _ _ 112 [(0, .ref 18), (1, .int (iI i)), (2, .int (iI w)), (3, .int (iI ((a 23) (w - 1))))] [.int (iI (-4))] _ _ _ _
        refine pm_e_sim pm_a209_112 rfl ?_
        show pm_E _ _ _ 114 [(0, .ref 18), (1, .int (iI i)), (2, .int (iI w)), (3, .int (iI ((a 23) (w - 1)))), (4, .int (iI (-4)))] [] _ _ _ _
        refine pm_e_sim pm_a209_114 rfl ?_
        show pm_E _ _ _ 115 [(0, .ref 18), (1, .int (iI i)), (2, .int (iI w)), (3, .int (iI ((a 23) (w - 1)))), (4, .int (iI (-4)))] [.ref 18] _ _ _ _
        refine pm_i_get pm_a209_115 rfl (mh_get (j := 0) hA rfl) rfl ?_
        show pm_E _ _ _ 118 [(0, .ref 18), (1, .int (iI i)), (2, .int (iI w)), (3, .int (iI ((a 23) (w - 1)))), (4, .int (iI (-4)))] [.ref 36] _ _ _ _
        refine pm_e_sim pm_a209_118 rfl ?_
        show pm_E _ _ _ 119 [(0, .ref 18), (1, .int (iI i)), (2, .int (iI w)), (3, .int (iI ((a 23) (w - 1)))), (4, .int (iI (-4)))] [.int (iI ((a 23) (w - 1))), .ref 36] _ _ _ _
        refine pm_i_ald pm_a209_119 (mh_get (j := 18) hA rfl) (by omega) (by omega) ⟨by omega, by omega⟩ ?_
        show pm_E _ _ _ 120 [(0, .ref 18), (1, .int (iI i)), (2, .int (iI w)), (3, .int (iI ((a 23) (w - 1)))), (4, .int (iI (-4)))] [.int (iI ((a 18) ((a 23) (w - 1))))] _ _ _ _
        refine pm_e_sim pm_a209_120 rfl ?_
        refine pm_e_top (y := iI (-4)) (by decide +kernel) ?_
        show pm_E _ _ _ 122 [(0, .ref 18), (1, .int (iI i)), (2, .int (iI w)), (3, .int (iI ((a 23) (w - 1)))), (4, .int (iI (-4)))] [.int (iI (-4)), .int (iI ((a 18) ((a 23) (w - 1))))] _ _ _ _
        refine pm_c_ne (t := 130) pm_a209_122 rfl ⟨by omega, by omega⟩ ⟨by omega, by omega⟩ (fun h_20 => ?_) (fun h_20 => ?_)
        · skip
          show pm_E _ _ _ 130 [(0, .ref 18), (1, .int (iI i)), (2, .int (iI w)), (3, .int (iI ((a 23) (w - 1)))), (4, .int (iI (-4)))] [] _ _ _ _
          refine pm_e_sim pm_a209_130 rfl ?_
          show pm_E _ _ _ 131 [(0, .ref 18), (1, .int (iI i)), (2, .int (iI w)), (3, .int (iI ((a 23) (w - 1)))), (4, .int (iI (-4)))] [.ref 18] _ _ _ _
          refine pm_e_sim pm_a209_131 rfl ?_
          show pm_E _ _ _ 132 [(0, .ref 18), (1, .int (iI i)), (2, .int (iI w)), (3, .int (iI ((a 23) (w - 1)))), (4, .int (iI (-4)))] [.ref 18, .ref 18] _ _ _ _
          refine pm_i_get pm_a209_132 rfl (mh_get (j := 0) hA rfl) rfl ?_
          show pm_E _ _ _ 135 [(0, .ref 18), (1, .int (iI i)), (2, .int (iI w)), (3, .int (iI ((a 23) (w - 1)))), (4, .int (iI (-4)))] [.ref 37, .ref 18] _ _ _ _
          refine pm_e_sim pm_a209_135 rfl ?_
          show pm_E _ _ _ 136 [(0, .ref 18), (1, .int (iI i)), (2, .int (iI w)), (3, .int (iI ((a 23) (w - 1)))), (4, .int (iI (-4)))] [.int (iI ((a 23) (w - 1))), .ref 37, .ref 18] _ _ _ _
          refine pm_i_ald pm_a209_136 (mh_get (j := 19) hA rfl) (by omega) (by omega) ⟨by omega, by omega⟩ ?_
          show pm_E _ _ _ 137 [(0, .ref 18), (1, .int (iI i)), (2, .int (iI w)), (3, .int (iI ((a 23) (w - 1)))), (4, .int (iI (-4)))] [.int (iI ((a 19) ((a 23) (w - 1)))), .ref 18] _ _ _ _
          refine pm_i_callv (k := 18) (T2 := pm_mm207) pm_a209_137 rfl rfl rfl (mh_get (j := 0) hA rfl) ⟨Nat.le_of_ble_eq_true rfl, Nat.le_of_ble_eq_true rfl, rfl, by decide +kernel⟩ ?_
          show pm_E none _ _ 0 [(0, .ref 18), (1, .int (iI ((a 19) ((a 23) (w - 1)))))] [] _ _ _ _
          refine M_root hA hFa (by omega) (by omega) (by omega) (fun r3 p3 q3 z3 => ?_)
          have m3 := hmk r3 p3 q3
          show pm_E _ _ _ 140 [(0, .ref 18), (1, .int (iI i)), (2, .int (iI w)), (3, .int (iI ((a 23) (w - 1)))), (4, .int (iI (-4)))] [.int (iI r3)] _ _ _ _
          refine pm_e_sim pm_a209_140 rfl ?_
          show pm_E _ _ _ 142 [(0, .ref 18), (1, .int (iI i)), (2, .int (iI w)), (3, .int (iI ((a 23) (w - 1)))), (4, .int (iI (-4))), (5, .int (iI r3))] [] _ _ _ _
          refine pm_e_sim pm_a209_142 rfl ?_
          show pm_E _ _ _ 144 [(0, .ref 18), (1, .int (iI i)), (2, .int (iI w)), (3, .int (iI ((a 23) (w - 1)))), (4, .int (iI (-4))), (5, .int (iI r3))] [.int (iI (-4))] _ _ _ _
          refine pm_e_sim pm_a209_144 rfl ?_
          refine pm_e_top (y := iI (-4)) (by decide +kernel) ?_
          show pm_E _ _ _ 146 [(0, .ref 18), (1, .int (iI i)), (2, .int (iI w)), (3, .int (iI ((a 23) (w - 1)))), (4, .int (iI (-4))), (5, .int (iI r3))] [.int (iI (-4)), .int (iI (-4))] _ _ _ _
          refine pm_e_ict pm_a209_146 rfl (by decide +kernel) ?_
          show pm_E _ _ _ 165 [(0, .ref 18), (1, .int (iI i)), (2, .int (iI w)), (3, .int (iI ((a 23) (w - 1)))), (4, .int (iI (-4))), (5, .int (iI r3))] [] _ _ _ _
          refine pm_e_sim pm_a209_165 rfl ?_
          show pm_E _ _ _ 167 [(0, .ref 18), (1, .int (iI i)), (2, .int (iI w)), (3, .int (iI ((a 23) (w - 1)))), (4, .int (iI (-4))), (5, .int (iI r3))] [.int (iI r3)] _ _ _ _
          refine pm_e_sim pm_a209_167 rfl ?_
          refine pm_e_top (y := iI (-4)) (by decide +kernel) ?_
          show pm_E _ _ _ 169 [(0, .ref 18), (1, .int (iI i)), (2, .int (iI w)), (3, .int (iI ((a 23) (w - 1)))), (4, .int (iI (-4))), (5, .int (iI r3))] [.int (iI (-4)), .int (iI r3)] _ _ _ _
          refine pm_c_eq (t := 188) pm_a209_169 rfl ⟨by omega, by omega⟩ ⟨by omega, by omega⟩ (fun h_21 => ?_) (fun h_21 => ?_)
          · skip
            show pm_E _ _ _ 188 [(0, .ref 18), (1, .int (iI i)), (2, .int (iI w)), (3, .int (iI ((a 23) (w - 1)))), (4, .int (iI (-4))), (5, .int (iI r3))] [] _ _ _ _
            refine pm_e_sim pm_a209_188 rfl ?_
            refine pm_e_top (y := iI (-4)) (by decide +kernel) ?_
            show pm_E _ _ _ 190 [(0, .ref 18), (1, .int (iI i)), (2, .int (iI w)), (3, .int (iI ((a 23) (w - 1)))), (4, .int (iI (-4))), (5, .int (iI r3))] [.int (iI (-4))] _ _ _ _
            refine pm_e_sim pm_a209_190 rfl ?_
            show pm_E _ _ _ 192 [(0, .ref 18), (1, .int (iI i)), (2, .int (iI w)), (3, .int (iI ((a 23) (w - 1)))), (4, .int (iI (-4))), (5, .int (iI r3)), (6, .int (iI (-4)))] [] _ _ _ _
            refine pm_e_sim pm_a209_192 rfl ?_
            show pm_E _ _ _ 194 [(0, .ref 18), (1, .int (iI i)), (2, .int (iI w)), (3, .int (iI ((a 23) (w - 1)))), (4, .int (iI (-4))), (5, .int (iI r3)), (6, .int (iI (-4)))] [.int (iI (-4))] _ _ _ _
            refine pm_e_sim pm_a209_194 rfl ?_
            refine pm_e_top (y := iI (-4)) (by decide +kernel) ?_
            show pm_E _ _ _ 196 [(0, .ref 18), (1, .int (iI i)), (2, .int (iI w)), (3, .int (iI ((a 23) (w - 1)))), (4, .int (iI (-4))), (5, .int (iI r3)), (6, .int (iI (-4)))] [.int (iI (-4)), .int (iI (-4))] _ _ _ _
            refine pm_e_icf pm_a209_196 rfl (by decide +kernel) ?_
            show pm_E _ _ _ 199 [(0, .ref 18), (1, .int (iI i)), (2, .int (iI w)), (3, .int (iI ((a 23) (w - 1)))), (4, .int (iI (-4))), (5, .int (iI r3)), (6, .int (iI (-4)))] [] _ _ _ _
            refine pm_e_sim pm_a209_199 rfl ?_
            show pm_E _ _ _ 200 [(0, .ref 18), (1, .int (iI i)), (2, .int (iI w)), (3, .int (iI ((a 23) (w - 1)))), (4, .int (iI (-4))), (5, .int (iI r3)), (6, .int (iI (-4)))] [.ref 18] _ _ _ _
            refine pm_i_get pm_a209_200 rfl (mh_get (j := 0) hA rfl) rfl ?_
            show pm_E _ _ _ 203 [(0, .ref 18), (1, .int (iI i)), (2, .int (iI w)), (3, .int (iI ((a 23) (w - 1)))), (4, .int (iI (-4))), (5, .int (iI r3)), (6, .int (iI (-4)))] [.ref 40] _ _ _ _
            refine pm_e_sim pm_a209_203 rfl ?_
            show pm_E _ _ _ 204 [(0, .ref 18), (1, .int (iI i)), (2, .int (iI w)), (3, .int (iI ((a 23) (w - 1)))), (4, .int (iI (-4))), (5, .int (iI r3)), (6, .int (iI (-4)))] [.int (iI ((a 23) (w - 1))), .ref 40] _ _ _ _
            refine pm_e_sim pm_a209_204 rfl ?_
            refine pm_e_top (y := iI 2) (by decide +kernel) ?_
            show pm_E _ _ _ 205 [(0, .ref 18), (1, .int (iI i)), (2, .int (iI w)), (3, .int (iI ((a 23) (w - 1)))), (4, .int (iI (-4))), (5, .int (iI r3)), (6, .int (iI (-4)))] [.int (iI 2), .int (iI ((a 23) (w - 1))), .ref 40] _ _ _ _
            refine pm_i_ast pm_a209_205 (mh_get (j := 22) hA rfl) (by omega) (by omega) ⟨by omega, by omega⟩ (ma_22 hA _) ?_
            show pm_E _ _ _ 206 [(0, .ref 18), (1, .int (iI i)), (2, .int (iI w)), (3, .int (iI ((a 23) (w - 1)))), (4, .int (iI (-4))), (5, .int (iI r3)), (6, .int (iI (-4)))] [] _ _ _ _
            refine pm_e_inc (y := iI (w + (-1))) pm_a209_206 rfl (iI_add _ _) (by decide +kernel) rfl ?_
            show pm_E _ _ _ 209 [(0, .ref 18), (1, .int (iI i)), (2, .int (iI (w + (-1)))), (3, .int (iI ((a 23) (w - 1)))), (4, .int (iI (-4))), (5, .int (iI r3)), (6, .int (iI (-4)))] [] _ _ _ _
            refine pm_e_goto pm_a209_209 rfl ?_
            show pm_E _ _ _ 244 [(0, .ref 18), (1, .int (iI i)), (2, .int (iI (w + (-1)))), (3, .int (iI ((a 23) (w - 1)))), (4, .int (iI (-4))), (5, .int (iI r3)), (6, .int (iI (-4)))] [] _ _ _ _
            refine pm_e_goto pm_a209_244 rfl ?_
            show pm_E _ _ _ 73 [(0, .ref 18), (1, .int (iI i)), (2, .int (iI (w + (-1)))), (3, .int (iI ((a 23) (w - 1)))), (4, .int (iI (-4))), (5, .int (iI r3)), (6, .int (iI (-4)))] [] _ _ _ _
            show pm_E _ _ _ 73 ([(0, .ref 18), (1, .int (iI i)), (2, .int (iI (w + (-1))))] ++ [(3, .int (iI ((a 23) (w - 1)))), (4, .int (iI (-4))), (5, .int (iI r3)), (6, .int (iI (-4)))]) [] _ _ _ _
            refine pm_e_more [(3, .int (iI ((a 23) (w - 1)))), (4, .int (iI (-4))), (5, .int (iI r3)), (6, .int (iI (-4)))] (show ([0, 1, 2, 3, 4, 5, 6] : List Nat).Nodup from by decide) ?_
            have h9 := cn0_dn (B := a 22) (g := (a 23) (w - 1)) (y := 2) (by omega) (n := (s 32).toNat)
            refine ih (w + -1) _ (by omega) (fun j h1 h2 => by simp [updA, h1, fA j h1 h2]) (fun j z y => ?_) (fun j z y => hpt j z (by omega)) ?_ k kf ?_
            · show 0 ≤ updI (a 22) _ 2 j ∧ updI (a 22) _ 2 j ≤ 2; have := hmk j z y; unfold updI; split <;> omega
            · show w + -1 + cn0 (updI (a 22) ((a 23) (w - 1)) 2) _ ≤ _; omega
            · show 2 * cn0 (updI (a 22) ((a 23) (w - 1)) 2) _ + (w + -1) < _; omega
          · skip
            show pm_E _ _ _ 172 [(0, .ref 18), (1, .int (iI i)), (2, .int (iI w)), (3, .int (iI ((a 23) (w - 1)))), (4, .int (iI (-4))), (5, .int (iI r3))] [] _ _ _ _
            refine pm_e_sim pm_a209_172 rfl ?_
            show pm_E _ _ _ 173 [(0, .ref 18), (1, .int (iI i)), (2, .int (iI w)), (3, .int (iI ((a 23) (w - 1)))), (4, .int (iI (-4))), (5, .int (iI r3))] [.ref 18] _ _ _ _
            refine pm_i_get pm_a209_173 rfl (mh_get (j := 0) hA rfl) rfl ?_
            show pm_E _ _ _ 176 [(0, .ref 18), (1, .int (iI i)), (2, .int (iI w)), (3, .int (iI ((a 23) (w - 1)))), (4, .int (iI (-4))), (5, .int (iI r3))] [.ref 40] _ _ _ _
            refine pm_e_sim pm_a209_176 rfl ?_
            show pm_E _ _ _ 178 [(0, .ref 18), (1, .int (iI i)), (2, .int (iI w)), (3, .int (iI ((a 23) (w - 1)))), (4, .int (iI (-4))), (5, .int (iI r3))] [.int (iI r3), .ref 40] _ _ _ _
            refine pm_i_ald pm_a209_178 (mh_get (j := 22) hA rfl) (by omega) (by omega) ⟨by omega, by omega⟩ ?_
            show pm_E _ _ _ 179 [(0, .ref 18), (1, .int (iI i)), (2, .int (iI w)), (3, .int (iI ((a 23) (w - 1)))), (4, .int (iI (-4))), (5, .int (iI r3))] [.int (iI ((a 22) (r3)))] _ _ _ _
            refine pm_e_sim pm_a209_179 rfl ?_
            refine pm_e_top (y := iI 2) (by decide +kernel) ?_
            show pm_E _ _ _ 180 [(0, .ref 18), (1, .int (iI i)), (2, .int (iI w)), (3, .int (iI ((a 23) (w - 1)))), (4, .int (iI (-4))), (5, .int (iI r3))] [.int (iI 2), .int (iI ((a 22) (r3)))] _ _ _ _
            refine pm_c_ge (t := 188) pm_a209_180 rfl ⟨by omega, by omega⟩ ⟨by omega, by omega⟩ (fun h_22 => ?_) (fun h_22 => ?_)
            · skip
              show pm_E _ _ _ 188 [(0, .ref 18), (1, .int (iI i)), (2, .int (iI w)), (3, .int (iI ((a 23) (w - 1)))), (4, .int (iI (-4))), (5, .int (iI r3))] [] _ _ _ _
              refine pm_e_sim pm_a209_188 rfl ?_
              refine pm_e_top (y := iI (-4)) (by decide +kernel) ?_
              show pm_E _ _ _ 190 [(0, .ref 18), (1, .int (iI i)), (2, .int (iI w)), (3, .int (iI ((a 23) (w - 1)))), (4, .int (iI (-4))), (5, .int (iI r3))] [.int (iI (-4))] _ _ _ _
              refine pm_e_sim pm_a209_190 rfl ?_
              show pm_E _ _ _ 192 [(0, .ref 18), (1, .int (iI i)), (2, .int (iI w)), (3, .int (iI ((a 23) (w - 1)))), (4, .int (iI (-4))), (5, .int (iI r3)), (6, .int (iI (-4)))] [] _ _ _ _
              refine pm_e_sim pm_a209_192 rfl ?_
              show pm_E _ _ _ 194 [(0, .ref 18), (1, .int (iI i)), (2, .int (iI w)), (3, .int (iI ((a 23) (w - 1)))), (4, .int (iI (-4))), (5, .int (iI r3)), (6, .int (iI (-4)))] [.int (iI (-4))] _ _ _ _
              refine pm_e_sim pm_a209_194 rfl ?_
              refine pm_e_top (y := iI (-4)) (by decide +kernel) ?_
              show pm_E _ _ _ 196 [(0, .ref 18), (1, .int (iI i)), (2, .int (iI w)), (3, .int (iI ((a 23) (w - 1)))), (4, .int (iI (-4))), (5, .int (iI r3)), (6, .int (iI (-4)))] [.int (iI (-4)), .int (iI (-4))] _ _ _ _
              refine pm_e_icf pm_a209_196 rfl (by decide +kernel) ?_
              show pm_E _ _ _ 199 [(0, .ref 18), (1, .int (iI i)), (2, .int (iI w)), (3, .int (iI ((a 23) (w - 1)))), (4, .int (iI (-4))), (5, .int (iI r3)), (6, .int (iI (-4)))] [] _ _ _ _
              refine pm_e_sim pm_a209_199 rfl ?_
              show pm_E _ _ _ 200 [(0, .ref 18), (1, .int (iI i)), (2, .int (iI w)), (3, .int (iI ((a 23) (w - 1)))), (4, .int (iI (-4))), (5, .int (iI r3)), (6, .int (iI (-4)))] [.ref 18] _ _ _ _
              refine pm_i_get pm_a209_200 rfl (mh_get (j := 0) hA rfl) rfl ?_
              show pm_E _ _ _ 203 [(0, .ref 18), (1, .int (iI i)), (2, .int (iI w)), (3, .int (iI ((a 23) (w - 1)))), (4, .int (iI (-4))), (5, .int (iI r3)), (6, .int (iI (-4)))] [.ref 40] _ _ _ _
              refine pm_e_sim pm_a209_203 rfl ?_
              show pm_E _ _ _ 204 [(0, .ref 18), (1, .int (iI i)), (2, .int (iI w)), (3, .int (iI ((a 23) (w - 1)))), (4, .int (iI (-4))), (5, .int (iI r3)), (6, .int (iI (-4)))] [.int (iI ((a 23) (w - 1))), .ref 40] _ _ _ _
              refine pm_e_sim pm_a209_204 rfl ?_
              refine pm_e_top (y := iI 2) (by decide +kernel) ?_
              show pm_E _ _ _ 205 [(0, .ref 18), (1, .int (iI i)), (2, .int (iI w)), (3, .int (iI ((a 23) (w - 1)))), (4, .int (iI (-4))), (5, .int (iI r3)), (6, .int (iI (-4)))] [.int (iI 2), .int (iI ((a 23) (w - 1))), .ref 40] _ _ _ _
              refine pm_i_ast pm_a209_205 (mh_get (j := 22) hA rfl) (by omega) (by omega) ⟨by omega, by omega⟩ (ma_22 hA _) ?_
              show pm_E _ _ _ 206 [(0, .ref 18), (1, .int (iI i)), (2, .int (iI w)), (3, .int (iI ((a 23) (w - 1)))), (4, .int (iI (-4))), (5, .int (iI r3)), (6, .int (iI (-4)))] [] _ _ _ _
              refine pm_e_inc (y := iI (w + (-1))) pm_a209_206 rfl (iI_add _ _) (by decide +kernel) rfl ?_
              show pm_E _ _ _ 209 [(0, .ref 18), (1, .int (iI i)), (2, .int (iI (w + (-1)))), (3, .int (iI ((a 23) (w - 1)))), (4, .int (iI (-4))), (5, .int (iI r3)), (6, .int (iI (-4)))] [] _ _ _ _
              refine pm_e_goto pm_a209_209 rfl ?_
              show pm_E _ _ _ 244 [(0, .ref 18), (1, .int (iI i)), (2, .int (iI (w + (-1)))), (3, .int (iI ((a 23) (w - 1)))), (4, .int (iI (-4))), (5, .int (iI r3)), (6, .int (iI (-4)))] [] _ _ _ _
              refine pm_e_goto pm_a209_244 rfl ?_
              show pm_E _ _ _ 73 [(0, .ref 18), (1, .int (iI i)), (2, .int (iI (w + (-1)))), (3, .int (iI ((a 23) (w - 1)))), (4, .int (iI (-4))), (5, .int (iI r3)), (6, .int (iI (-4)))] [] _ _ _ _
              show pm_E _ _ _ 73 ([(0, .ref 18), (1, .int (iI i)), (2, .int (iI (w + (-1))))] ++ [(3, .int (iI ((a 23) (w - 1)))), (4, .int (iI (-4))), (5, .int (iI r3)), (6, .int (iI (-4)))]) [] _ _ _ _
              refine pm_e_more [(3, .int (iI ((a 23) (w - 1)))), (4, .int (iI (-4))), (5, .int (iI r3)), (6, .int (iI (-4)))] (show ([0, 1, 2, 3, 4, 5, 6] : List Nat).Nodup from by decide) ?_
              have h9 := cn0_dn (B := a 22) (g := (a 23) (w - 1)) (y := 2) (by omega) (n := (s 32).toNat)
              refine ih (w + -1) _ (by omega) (fun j h1 h2 => by simp [updA, h1, fA j h1 h2]) (fun j z y => ?_) (fun j z y => hpt j z (by omega)) ?_ k kf ?_
              · show 0 ≤ updI (a 22) _ 2 j ∧ updI (a 22) _ 2 j ≤ 2; have := hmk j z y; unfold updI; split <;> omega
              · show w + -1 + cn0 (updI (a 22) ((a 23) (w - 1)) 2) _ ≤ _; omega
              · show 2 * cn0 (updI (a 22) ((a 23) (w - 1)) 2) _ + (w + -1) < _; omega
            · skip
              show pm_E _ _ _ 183 [(0, .ref 18), (1, .int (iI i)), (2, .int (iI w)), (3, .int (iI ((a 23) (w - 1)))), (4, .int (iI (-4))), (5, .int (iI r3))] [] _ _ _ _
              refine pm_e_sim pm_a209_183 rfl ?_
              show pm_E _ _ _ 185 [(0, .ref 18), (1, .int (iI i)), (2, .int (iI w)), (3, .int (iI ((a 23) (w - 1)))), (4, .int (iI (-4))), (5, .int (iI r3))] [.int (iI r3)] _ _ _ _
              refine pm_e_goto pm_a209_185 rfl ?_
              show pm_E _ _ _ 190 [(0, .ref 18), (1, .int (iI i)), (2, .int (iI w)), (3, .int (iI ((a 23) (w - 1)))), (4, .int (iI (-4))), (5, .int (iI r3))] [.int (iI r3)] _ _ _ _
              refine pm_e_sim pm_a209_190 rfl ?_
              show pm_E _ _ _ 192 [(0, .ref 18), (1, .int (iI i)), (2, .int (iI w)), (3, .int (iI ((a 23) (w - 1)))), (4, .int (iI (-4))), (5, .int (iI r3)), (6, .int (iI r3))] [] _ _ _ _
              refine pm_e_sim pm_a209_192 rfl ?_
              show pm_E _ _ _ 194 [(0, .ref 18), (1, .int (iI i)), (2, .int (iI w)), (3, .int (iI ((a 23) (w - 1)))), (4, .int (iI (-4))), (5, .int (iI r3)), (6, .int (iI r3))] [.int (iI r3)] _ _ _ _
              refine pm_e_sim pm_a209_194 rfl ?_
              refine pm_e_top (y := iI (-4)) (by decide +kernel) ?_
              show pm_E _ _ _ 196 [(0, .ref 18), (1, .int (iI i)), (2, .int (iI w)), (3, .int (iI ((a 23) (w - 1)))), (4, .int (iI (-4))), (5, .int (iI r3)), (6, .int (iI r3))] [.int (iI (-4)), .int (iI r3)] _ _ _ _
              refine pm_c_ne (t := 212) pm_a209_196 rfl ⟨by omega, by omega⟩ ⟨by omega, by omega⟩ (fun h_23 => ?_) (fun h_23 => ?_)
              · skip
                show pm_E _ _ _ 212 [(0, .ref 18), (1, .int (iI i)), (2, .int (iI w)), (3, .int (iI ((a 23) (w - 1)))), (4, .int (iI (-4))), (5, .int (iI r3)), (6, .int (iI r3))] [] _ _ _ _
                refine pm_e_sim pm_a209_212 rfl ?_
                show pm_E _ _ _ 213 [(0, .ref 18), (1, .int (iI i)), (2, .int (iI w)), (3, .int (iI ((a 23) (w - 1)))), (4, .int (iI (-4))), (5, .int (iI r3)), (6, .int (iI r3))] [.ref 18] _ _ _ _
                refine pm_i_get pm_a209_213 rfl (mh_get (j := 0) hA rfl) rfl ?_
                show pm_E _ _ _ 216 [(0, .ref 18), (1, .int (iI i)), (2, .int (iI w)), (3, .int (iI ((a 23) (w - 1)))), (4, .int (iI (-4))), (5, .int (iI r3)), (6, .int (iI r3))] [.ref 40] _ _ _ _
                refine pm_e_sim pm_a209_216 rfl ?_
                show pm_E _ _ _ 218 [(0, .ref 18), (1, .int (iI i)), (2, .int (iI w)), (3, .int (iI ((a 23) (w - 1)))), (4, .int (iI (-4))), (5, .int (iI r3)), (6, .int (iI r3))] [.int (iI r3), .ref 40] _ _ _ _
                refine pm_i_ald pm_a209_218 (mh_get (j := 22) hA rfl) (by omega) (by omega) ⟨by omega, by omega⟩ ?_
                show pm_E _ _ _ 219 [(0, .ref 18), (1, .int (iI i)), (2, .int (iI w)), (3, .int (iI ((a 23) (w - 1)))), (4, .int (iI (-4))), (5, .int (iI r3)), (6, .int (iI r3))] [.int (iI ((a 22) (r3)))] _ _ _ _
                refine pm_e_sim pm_a209_219 rfl ?_
                refine pm_e_top (y := iI 1) (by decide +kernel) ?_
                show pm_E _ _ _ 220 [(0, .ref 18), (1, .int (iI i)), (2, .int (iI w)), (3, .int (iI ((a 23) (w - 1)))), (4, .int (iI (-4))), (5, .int (iI r3)), (6, .int (iI r3))] [.int (iI 1), .int (iI ((a 22) (r3)))] _ _ _ _
                refine pm_c_ne (t := 225) pm_a209_220 rfl ⟨by omega, by omega⟩ ⟨by omega, by omega⟩ (fun h_24 => ?_) (fun h_24 => ?_)
                · skip
                  show pm_E _ _ _ 225 [(0, .ref 18), (1, .int (iI i)), (2, .int (iI w)), (3, .int (iI ((a 23) (w - 1)))), (4, .int (iI (-4))), (5, .int (iI r3)), (6, .int (iI r3))] [] _ _ _ _
                  refine pm_e_sim pm_a209_225 rfl ?_
                  show pm_E _ _ _ 226 [(0, .ref 18), (1, .int (iI i)), (2, .int (iI w)), (3, .int (iI ((a 23) (w - 1)))), (4, .int (iI (-4))), (5, .int (iI r3)), (6, .int (iI r3))] [.ref 18] _ _ _ _
                  refine pm_i_get pm_a209_226 rfl (mh_get (j := 0) hA rfl) rfl ?_
                  show pm_E _ _ _ 229 [(0, .ref 18), (1, .int (iI i)), (2, .int (iI w)), (3, .int (iI ((a 23) (w - 1)))), (4, .int (iI (-4))), (5, .int (iI r3)), (6, .int (iI r3))] [.ref 40] _ _ _ _
                  refine pm_e_sim pm_a209_229 rfl ?_
                  show pm_E _ _ _ 231 [(0, .ref 18), (1, .int (iI i)), (2, .int (iI w)), (3, .int (iI ((a 23) (w - 1)))), (4, .int (iI (-4))), (5, .int (iI r3)), (6, .int (iI r3))] [.int (iI r3), .ref 40] _ _ _ _
                  refine pm_e_sim pm_a209_231 rfl ?_
                  refine pm_e_top (y := iI 1) (by decide +kernel) ?_
                  show pm_E _ _ _ 232 [(0, .ref 18), (1, .int (iI i)), (2, .int (iI w)), (3, .int (iI ((a 23) (w - 1)))), (4, .int (iI (-4))), (5, .int (iI r3)), (6, .int (iI r3))] [.int (iI 1), .int (iI r3), .ref 40] _ _ _ _
                  refine pm_i_ast pm_a209_232 (mh_get (j := 22) hA rfl) (by omega) (by omega) ⟨by omega, by omega⟩ (ma_22 hA _) ?_
                  show pm_E _ _ _ 233 [(0, .ref 18), (1, .int (iI i)), (2, .int (iI w)), (3, .int (iI ((a 23) (w - 1)))), (4, .int (iI (-4))), (5, .int (iI r3)), (6, .int (iI r3))] [] _ _ _ _
                  refine pm_e_sim pm_a209_233 rfl ?_
                  show pm_E _ _ _ 234 [(0, .ref 18), (1, .int (iI i)), (2, .int (iI w)), (3, .int (iI ((a 23) (w - 1)))), (4, .int (iI (-4))), (5, .int (iI r3)), (6, .int (iI r3))] [.ref 18] _ _ _ _
                  refine pm_i_get pm_a209_234 rfl (mh_get (j := 0) hA rfl) rfl ?_
                  show pm_E _ _ _ 237 [(0, .ref 18), (1, .int (iI i)), (2, .int (iI w)), (3, .int (iI ((a 23) (w - 1)))), (4, .int (iI (-4))), (5, .int (iI r3)), (6, .int (iI r3))] [.ref 41] _ _ _ _
                  refine pm_e_sim pm_a209_237 rfl ?_
                  show pm_E _ _ _ 238 [(0, .ref 18), (1, .int (iI i)), (2, .int (iI w)), (3, .int (iI ((a 23) (w - 1)))), (4, .int (iI (-4))), (5, .int (iI r3)), (6, .int (iI r3))] [.int (iI w), .ref 41] _ _ _ _
                  refine pm_e_sim pm_a209_238 rfl ?_
                  show pm_E _ _ _ 240 [(0, .ref 18), (1, .int (iI i)), (2, .int (iI w)), (3, .int (iI ((a 23) (w - 1)))), (4, .int (iI (-4))), (5, .int (iI r3)), (6, .int (iI r3))] [.int (iI r3), .int (iI w), .ref 41] _ _ _ _
                  refine pm_i_ast pm_a209_240 (mh_get (j := 23) hA rfl) (by omega) (by omega) ⟨by omega, by omega⟩ (ma_23 hA _) ?_
                  show pm_E _ _ _ 241 [(0, .ref 18), (1, .int (iI i)), (2, .int (iI w)), (3, .int (iI ((a 23) (w - 1)))), (4, .int (iI (-4))), (5, .int (iI r3)), (6, .int (iI r3))] [] _ _ _ _
                  refine pm_e_inc (y := iI (w + 1)) pm_a209_241 rfl (iI_add _ _) (by decide +kernel) rfl ?_
                  show pm_E _ _ _ 244 [(0, .ref 18), (1, .int (iI i)), (2, .int (iI (w + 1))), (3, .int (iI ((a 23) (w - 1)))), (4, .int (iI (-4))), (5, .int (iI r3)), (6, .int (iI r3))] [] _ _ _ _
                  refine pm_e_goto pm_a209_244 rfl ?_
                  show pm_E _ _ _ 73 [(0, .ref 18), (1, .int (iI i)), (2, .int (iI (w + 1))), (3, .int (iI ((a 23) (w - 1)))), (4, .int (iI (-4))), (5, .int (iI r3)), (6, .int (iI r3))] [] _ _ _ _
                  show pm_E _ _ _ 73 ([(0, .ref 18), (1, .int (iI i)), (2, .int (iI (w + 1)))] ++ [(3, .int (iI ((a 23) (w - 1)))), (4, .int (iI (-4))), (5, .int (iI r3)), (6, .int (iI r3))]) [] _ _ _ _
                  refine pm_e_more [(3, .int (iI ((a 23) (w - 1)))), (4, .int (iI (-4))), (5, .int (iI r3)), (6, .int (iI r3))] (show ([0, 1, 2, 3, 4, 5, 6] : List Nat).Nodup from by decide) ?_
                  have h9 := cn0_up (B := a 22) (g := r3) (y := 1) (by omega) (by omega) (n := (s 32).toNat) (by omega) (by omega)
                  have h8 := cn0_le (B := updI (a 22) r3 1) (n := (s 32).toNat)
                  refine ih (w + 1) _ (by omega) (fun j h1 h2 => by simp [updA, h1, h2, fA j h1 h2]) (fun j z y => ?_) (fun j z y => ?_) ?_ k kf ?_
                  · show 0 ≤ updI (a 22) _ 1 j ∧ updI (a 22) _ 1 j ≤ 2; have := hmk j z y; unfold updI; split <;> omega
                  · show 0 ≤ updI (a 23) w _ j ∧ updI (a 23) w _ j < _
                    by_cases hj : j = w
                    · rw [hj, updI_s]; omega
                    · rw [updI_n _ _ hj]; exact hpt j z (by omega)
                  · show w + 1 + cn0 (updI (a 22) r3 1) _ ≤ _; omega
                  · show 2 * cn0 (updI (a 22) r3 1) _ + (w + 1) < _; omega
                · skip
                  show pm_E _ _ _ 223 [(0, .ref 18), (1, .int (iI i)), (2, .int (iI w)), (3, .int (iI ((a 23) (w - 1)))), (4, .int (iI (-4))), (5, .int (iI r3)), (6, .int (iI r3))] [] _ _ _ _
                  refine pm_e_sim pm_a209_223 rfl ?_
                  refine pm_e_top (y := iI 0) (by decide +kernel) ?_
                  show pm_E _ _ _ 224 [(0, .ref 18), (1, .int (iI i)), (2, .int (iI w)), (3, .int (iI ((a 23) (w - 1)))), (4, .int (iI (-4))), (5, .int (iI r3)), (6, .int (iI r3))] [.int (iI 0)] _ _ _ _
                  refine pm_e_ret pm_a209_224 rfl rfl rfl rfl rfl rfl rfl rfl ?_
                  exact kf a fA
              · skip
                show pm_E _ _ _ 199 [(0, .ref 18), (1, .int (iI i)), (2, .int (iI w)), (3, .int (iI ((a 23) (w - 1)))), (4, .int (iI (-4))), (5, .int (iI r3)), (6, .int (iI r3))] [] _ _ _ _
                refine pm_e_sim pm_a209_199 rfl ?_
                show pm_E _ _ _ 200 [(0, .ref 18), (1, .int (iI i)), (2, .int (iI w)), (3, .int (iI ((a 23) (w - 1)))), (4, .int (iI (-4))), (5, .int (iI r3)), (6, .int (iI r3))] [.ref 18] _ _ _ _
                refine pm_i_get pm_a209_200 rfl (mh_get (j := 0) hA rfl) rfl ?_
                show pm_E _ _ _ 203 [(0, .ref 18), (1, .int (iI i)), (2, .int (iI w)), (3, .int (iI ((a 23) (w - 1)))), (4, .int (iI (-4))), (5, .int (iI r3)), (6, .int (iI r3))] [.ref 40] _ _ _ _
                refine pm_e_sim pm_a209_203 rfl ?_
                show pm_E _ _ _ 204 [(0, .ref 18), (1, .int (iI i)), (2, .int (iI w)), (3, .int (iI ((a 23) (w - 1)))), (4, .int (iI (-4))), (5, .int (iI r3)), (6, .int (iI r3))] [.int (iI ((a 23) (w - 1))), .ref 40] _ _ _ _
                refine pm_e_sim pm_a209_204 rfl ?_
                refine pm_e_top (y := iI 2) (by decide +kernel) ?_
                show pm_E _ _ _ 205 [(0, .ref 18), (1, .int (iI i)), (2, .int (iI w)), (3, .int (iI ((a 23) (w - 1)))), (4, .int (iI (-4))), (5, .int (iI r3)), (6, .int (iI r3))] [.int (iI 2), .int (iI ((a 23) (w - 1))), .ref 40] _ _ _ _
                refine pm_i_ast pm_a209_205 (mh_get (j := 22) hA rfl) (by omega) (by omega) ⟨by omega, by omega⟩ (ma_22 hA _) ?_
                show pm_E _ _ _ 206 [(0, .ref 18), (1, .int (iI i)), (2, .int (iI w)), (3, .int (iI ((a 23) (w - 1)))), (4, .int (iI (-4))), (5, .int (iI r3)), (6, .int (iI r3))] [] _ _ _ _
                refine pm_e_inc (y := iI (w + (-1))) pm_a209_206 rfl (iI_add _ _) (by decide +kernel) rfl ?_
                show pm_E _ _ _ 209 [(0, .ref 18), (1, .int (iI i)), (2, .int (iI (w + (-1)))), (3, .int (iI ((a 23) (w - 1)))), (4, .int (iI (-4))), (5, .int (iI r3)), (6, .int (iI r3))] [] _ _ _ _
                refine pm_e_goto pm_a209_209 rfl ?_
                show pm_E _ _ _ 244 [(0, .ref 18), (1, .int (iI i)), (2, .int (iI (w + (-1)))), (3, .int (iI ((a 23) (w - 1)))), (4, .int (iI (-4))), (5, .int (iI r3)), (6, .int (iI r3))] [] _ _ _ _
                refine pm_e_goto pm_a209_244 rfl ?_
                show pm_E _ _ _ 73 [(0, .ref 18), (1, .int (iI i)), (2, .int (iI (w + (-1)))), (3, .int (iI ((a 23) (w - 1)))), (4, .int (iI (-4))), (5, .int (iI r3)), (6, .int (iI r3))] [] _ _ _ _
                show pm_E _ _ _ 73 ([(0, .ref 18), (1, .int (iI i)), (2, .int (iI (w + (-1))))] ++ [(3, .int (iI ((a 23) (w - 1)))), (4, .int (iI (-4))), (5, .int (iI r3)), (6, .int (iI r3))]) [] _ _ _ _
                refine pm_e_more [(3, .int (iI ((a 23) (w - 1)))), (4, .int (iI (-4))), (5, .int (iI r3)), (6, .int (iI r3))] (show ([0, 1, 2, 3, 4, 5, 6] : List Nat).Nodup from by decide) ?_
                have h9 := cn0_dn (B := a 22) (g := (a 23) (w - 1)) (y := 2) (by omega) (n := (s 32).toNat)
                refine ih (w + -1) _ (by omega) (fun j h1 h2 => by simp [updA, h1, fA j h1 h2]) (fun j z y => ?_) (fun j z y => hpt j z (by omega)) ?_ k kf ?_
                · show 0 ≤ updI (a 22) _ 2 j ∧ updI (a 22) _ 2 j ≤ 2; have := hmk j z y; unfold updI; split <;> omega
                · show w + -1 + cn0 (updI (a 22) ((a 23) (w - 1)) 2) _ ≤ _; omega
                · show 2 * cn0 (updI (a 22) ((a 23) (w - 1)) 2) _ + (w + -1) < _; omega
        · skip
          show pm_E _ _ _ 125 [(0, .ref 18), (1, .int (iI i)), (2, .int (iI w)), (3, .int (iI ((a 23) (w - 1)))), (4, .int (iI (-4)))] [] _ _ _ _
          refine pm_e_sim pm_a209_125 rfl ?_
          refine pm_e_top (y := iI (-4)) (by decide +kernel) ?_
          show pm_E _ _ _ 127 [(0, .ref 18), (1, .int (iI i)), (2, .int (iI w)), (3, .int (iI ((a 23) (w - 1)))), (4, .int (iI (-4)))] [.int (iI (-4))] _ _ _ _
          refine pm_e_goto pm_a209_127 rfl ?_
          show pm_E _ _ _ 140 [(0, .ref 18), (1, .int (iI i)), (2, .int (iI w)), (3, .int (iI ((a 23) (w - 1)))), (4, .int (iI (-4)))] [.int (iI (-4))] _ _ _ _
          refine pm_e_sim pm_a209_140 rfl ?_
          show pm_E _ _ _ 142 [(0, .ref 18), (1, .int (iI i)), (2, .int (iI w)), (3, .int (iI ((a 23) (w - 1)))), (4, .int (iI (-4))), (5, .int (iI (-4)))] [] _ _ _ _
          refine pm_e_sim pm_a209_142 rfl ?_
          show pm_E _ _ _ 144 [(0, .ref 18), (1, .int (iI i)), (2, .int (iI w)), (3, .int (iI ((a 23) (w - 1)))), (4, .int (iI (-4))), (5, .int (iI (-4)))] [.int (iI (-4))] _ _ _ _
          refine pm_e_sim pm_a209_144 rfl ?_
          refine pm_e_top (y := iI (-4)) (by decide +kernel) ?_
          show pm_E _ _ _ 146 [(0, .ref 18), (1, .int (iI i)), (2, .int (iI w)), (3, .int (iI ((a 23) (w - 1)))), (4, .int (iI (-4))), (5, .int (iI (-4)))] [.int (iI (-4)), .int (iI (-4))] _ _ _ _
          refine pm_e_ict pm_a209_146 rfl (by decide +kernel) ?_
          show pm_E _ _ _ 165 [(0, .ref 18), (1, .int (iI i)), (2, .int (iI w)), (3, .int (iI ((a 23) (w - 1)))), (4, .int (iI (-4))), (5, .int (iI (-4)))] [] _ _ _ _
          refine pm_e_sim pm_a209_165 rfl ?_
          show pm_E _ _ _ 167 [(0, .ref 18), (1, .int (iI i)), (2, .int (iI w)), (3, .int (iI ((a 23) (w - 1)))), (4, .int (iI (-4))), (5, .int (iI (-4)))] [.int (iI (-4))] _ _ _ _
          refine pm_e_sim pm_a209_167 rfl ?_
          refine pm_e_top (y := iI (-4)) (by decide +kernel) ?_
          show pm_E _ _ _ 169 [(0, .ref 18), (1, .int (iI i)), (2, .int (iI w)), (3, .int (iI ((a 23) (w - 1)))), (4, .int (iI (-4))), (5, .int (iI (-4)))] [.int (iI (-4)), .int (iI (-4))] _ _ _ _
          refine pm_e_ict pm_a209_169 rfl (by decide +kernel) ?_
          show pm_E _ _ _ 188 [(0, .ref 18), (1, .int (iI i)), (2, .int (iI w)), (3, .int (iI ((a 23) (w - 1)))), (4, .int (iI (-4))), (5, .int (iI (-4)))] [] _ _ _ _
          refine pm_e_sim pm_a209_188 rfl ?_
          refine pm_e_top (y := iI (-4)) (by decide +kernel) ?_
          show pm_E _ _ _ 190 [(0, .ref 18), (1, .int (iI i)), (2, .int (iI w)), (3, .int (iI ((a 23) (w - 1)))), (4, .int (iI (-4))), (5, .int (iI (-4)))] [.int (iI (-4))] _ _ _ _
          refine pm_e_sim pm_a209_190 rfl ?_
          show pm_E _ _ _ 192 [(0, .ref 18), (1, .int (iI i)), (2, .int (iI w)), (3, .int (iI ((a 23) (w - 1)))), (4, .int (iI (-4))), (5, .int (iI (-4))), (6, .int (iI (-4)))] [] _ _ _ _
          refine pm_e_sim pm_a209_192 rfl ?_
          show pm_E _ _ _ 194 [(0, .ref 18), (1, .int (iI i)), (2, .int (iI w)), (3, .int (iI ((a 23) (w - 1)))), (4, .int (iI (-4))), (5, .int (iI (-4))), (6, .int (iI (-4)))] [.int (iI (-4))] _ _ _ _
          refine pm_e_sim pm_a209_194 rfl ?_
          refine pm_e_top (y := iI (-4)) (by decide +kernel) ?_
          show pm_E _ _ _ 196 [(0, .ref 18), (1, .int (iI i)), (2, .int (iI w)), (3, .int (iI ((a 23) (w - 1)))), (4, .int (iI (-4))), (5, .int (iI (-4))), (6, .int (iI (-4)))] [.int (iI (-4)), .int (iI (-4))] _ _ _ _
          refine pm_e_icf pm_a209_196 rfl (by decide +kernel) ?_
          show pm_E _ _ _ 199 [(0, .ref 18), (1, .int (iI i)), (2, .int (iI w)), (3, .int (iI ((a 23) (w - 1)))), (4, .int (iI (-4))), (5, .int (iI (-4))), (6, .int (iI (-4)))] [] _ _ _ _
          refine pm_e_sim pm_a209_199 rfl ?_
          show pm_E _ _ _ 200 [(0, .ref 18), (1, .int (iI i)), (2, .int (iI w)), (3, .int (iI ((a 23) (w - 1)))), (4, .int (iI (-4))), (5, .int (iI (-4))), (6, .int (iI (-4)))] [.ref 18] _ _ _ _
          refine pm_i_get pm_a209_200 rfl (mh_get (j := 0) hA rfl) rfl ?_
          show pm_E _ _ _ 203 [(0, .ref 18), (1, .int (iI i)), (2, .int (iI w)), (3, .int (iI ((a 23) (w - 1)))), (4, .int (iI (-4))), (5, .int (iI (-4))), (6, .int (iI (-4)))] [.ref 40] _ _ _ _
          refine pm_e_sim pm_a209_203 rfl ?_
          show pm_E _ _ _ 204 [(0, .ref 18), (1, .int (iI i)), (2, .int (iI w)), (3, .int (iI ((a 23) (w - 1)))), (4, .int (iI (-4))), (5, .int (iI (-4))), (6, .int (iI (-4)))] [.int (iI ((a 23) (w - 1))), .ref 40] _ _ _ _
          refine pm_e_sim pm_a209_204 rfl ?_
          refine pm_e_top (y := iI 2) (by decide +kernel) ?_
          show pm_E _ _ _ 205 [(0, .ref 18), (1, .int (iI i)), (2, .int (iI w)), (3, .int (iI ((a 23) (w - 1)))), (4, .int (iI (-4))), (5, .int (iI (-4))), (6, .int (iI (-4)))] [.int (iI 2), .int (iI ((a 23) (w - 1))), .ref 40] _ _ _ _
          refine pm_i_ast pm_a209_205 (mh_get (j := 22) hA rfl) (by omega) (by omega) ⟨by omega, by omega⟩ (ma_22 hA _) ?_
          show pm_E _ _ _ 206 [(0, .ref 18), (1, .int (iI i)), (2, .int (iI w)), (3, .int (iI ((a 23) (w - 1)))), (4, .int (iI (-4))), (5, .int (iI (-4))), (6, .int (iI (-4)))] [] _ _ _ _
          refine pm_e_inc (y := iI (w + (-1))) pm_a209_206 rfl (iI_add _ _) (by decide +kernel) rfl ?_
          show pm_E _ _ _ 209 [(0, .ref 18), (1, .int (iI i)), (2, .int (iI (w + (-1)))), (3, .int (iI ((a 23) (w - 1)))), (4, .int (iI (-4))), (5, .int (iI (-4))), (6, .int (iI (-4)))] [] _ _ _ _
          refine pm_e_goto pm_a209_209 rfl ?_
          show pm_E _ _ _ 244 [(0, .ref 18), (1, .int (iI i)), (2, .int (iI (w + (-1)))), (3, .int (iI ((a 23) (w - 1)))), (4, .int (iI (-4))), (5, .int (iI (-4))), (6, .int (iI (-4)))] [] _ _ _ _
          refine pm_e_goto pm_a209_244 rfl ?_
          show pm_E _ _ _ 73 [(0, .ref 18), (1, .int (iI i)), (2, .int (iI (w + (-1)))), (3, .int (iI ((a 23) (w - 1)))), (4, .int (iI (-4))), (5, .int (iI (-4))), (6, .int (iI (-4)))] [] _ _ _ _
          show pm_E _ _ _ 73 ([(0, .ref 18), (1, .int (iI i)), (2, .int (iI (w + (-1))))] ++ [(3, .int (iI ((a 23) (w - 1)))), (4, .int (iI (-4))), (5, .int (iI (-4))), (6, .int (iI (-4)))]) [] _ _ _ _
          refine pm_e_more [(3, .int (iI ((a 23) (w - 1)))), (4, .int (iI (-4))), (5, .int (iI (-4))), (6, .int (iI (-4)))] (show ([0, 1, 2, 3, 4, 5, 6] : List Nat).Nodup from by decide) ?_
          have h9 := cn0_dn (B := a 22) (g := (a 23) (w - 1)) (y := 2) (by omega) (n := (s 32).toNat)
          refine ih (w + -1) _ (by omega) (fun j h1 h2 => by simp [updA, h1, fA j h1 h2]) (fun j z y => ?_) (fun j z y => hpt j z (by omega)) ?_ k kf ?_
          · show 0 ≤ updI (a 22) _ 2 j ∧ updI (a 22) _ 2 j ≤ 2; have := hmk j z y; unfold updI; split <;> omega
          · show w + -1 + cn0 (updI (a 22) ((a 23) (w - 1)) 2) _ ≤ _; omega
          · show 2 * cn0 (updI (a 22) ((a 23) (w - 1)) 2) _ + (w + -1) < _; omega
theorem cn0_lt {B : Int → Int} {g y K : Int} (hy : y ≠ 0) (h0 : 0 ≤ g) (h1 : g < K) : cn0 (updI B g y) K.toNat + 1 ≤ K := by
  have : ∀ n : Nat, g < n → cn0 (updI B g y) n + 1 ≤ n := by
    intro n
    induction n with
    | zero => intro h; omega
    | succ n ih =>
      intro h
      show cn0 (updI B g y) n + (if updI B g y n = 0 then 1 else 0) + 1 ≤ _
      by_cases hq : (n : Int) = g
      · rw [hq, updI_s, if_neg hy]
        have := cn0_le (B := updI B g y) (n := n)
        omega
      · have := ih (by omega)
        split <;> omega
  have := this K.toNat (by omega)
  omega
set_option maxHeartbeats 4000000 in
set_option maxRecDepth 100000 in
theorem M_isFin_3 {d : Nat} {A B : List va_E} {vl : Int64} {nm : Nat → Int64} {Q : Option Value → List va_E → Nat → Nat → Prop} {s : Nat → Int} {a0 : Nat → Int → Int} (hA : A.length = 18) (hF : FI (a0 17) (a0 18) (a0 19) (s 32)) (hK : s 32 ≤ 6000) : ∀ (f : Nat) (i : Int) (a : Nat → Int → Int), 0 ≤ i → i ≤ s 32 → (∀ j, j ≠ 22 → j ≠ 23 → a j = a0 j) → (∀ j, 0 ≤ j → j < s 32 → 0 ≤ a 22 j ∧ a 22 j ≤ 2) → (∀ (a : Nat → Int → Int), (∀ j, j ≠ 22 → j ≠ 23 → a j = a0 j) → Q (some (.int (iI 1))) (mh A s vl a nm B) 0 0) → (∀ (a : Nat → Int → Int), (∀ j, j ≠ 22 → j ≠ 23 → a j = a0 j) → Q (some (.int (iI 0))) (mh A s vl a nm B) 0 0) → s 32 - i < (f : Int) → pm_E none (d + 1) pm_mm209 25 [(0, .ref 18), (1, .int (iI i))] [] (mh A s vl a nm B) 0 0 Q := by
  intro f
  induction f with
  | zero =>
    intro i a h0 h1 fA hmk k kf hf
    exfalso; omega
  | succ f ih =>
    intro i a h0 h1 fA hmk k kf hf
    have hK0 := hF.1
    have e17 : a 17 = a0 17 := fA 17 (by omega) (by omega)
    have e18 : a 18 = a0 18 := fA 18 (by omega) (by omega)
    have e19 : a 19 = a0 19 := fA 19 (by omega) (by omega)
    have hFa : FI (a 17) (a 18) (a 19) (s 32) := by rw [e17, e18, e19]; exact hF
    refine pm_e_sim pm_a209_25 rfl ?_
    show pm_E _ _ _ 26 [(0, .ref 18), (1, .int (iI i))] [.int (iI i)] _ _ _ _
    refine pm_e_sim pm_a209_26 rfl ?_
    show pm_E _ _ _ 27 [(0, .ref 18), (1, .int (iI i))] [.ref 18, .int (iI i)] _ _ _ _
    refine pm_i_get pm_a209_27 rfl (mh_get (j := 0) hA rfl) rfl ?_
    show pm_E _ _ _ 30 [(0, .ref 18), (1, .int (iI i))] [.int (iI (s 32)), .int (iI i)] _ _ _ _
    refine pm_c_ge (t := 253) pm_a209_30 rfl ⟨by omega, by omega⟩ ⟨by omega, by omega⟩ (fun h_1 => ?_) (fun h_1 => ?_)
    · skip
      show pm_E _ _ _ 253 [(0, .ref 18), (1, .int (iI i))] [] _ _ _ _
      refine pm_e_sim pm_a209_253 rfl ?_
      refine pm_e_top (y := iI 1) (by decide +kernel) ?_
      show pm_E _ _ _ 254 [(0, .ref 18), (1, .int (iI i))] [.int (iI 1)] _ _ _ _
      refine pm_e_ret pm_a209_254 rfl rfl rfl rfl rfl rfl rfl rfl ?_
      exact k a fA
    · skip
      show pm_E _ _ _ 33 [(0, .ref 18), (1, .int (iI i))] [] _ _ _ _
      refine pm_e_sim pm_a209_33 rfl ?_
      refine pm_e_top (y := iI 0) (by decide +kernel) ?_
      show pm_E _ _ _ 34 [(0, .ref 18), (1, .int (iI i))] [.int (iI 0)] _ _ _ _
      refine pm_e_sim pm_a209_34 rfl ?_
      show pm_E _ _ _ 35 [(0, .ref 18), (1, .int (iI i)), (2, .int (iI 0))] [] _ _ _ _
      refine pm_e_sim pm_a209_35 rfl ?_
      show pm_E _ _ _ 36 [(0, .ref 18), (1, .int (iI i)), (2, .int (iI 0))] [.ref 18] _ _ _ _
      refine pm_i_get pm_a209_36 rfl (mh_get (j := 0) hA rfl) rfl ?_
      show pm_E _ _ _ 39 [(0, .ref 18), (1, .int (iI i)), (2, .int (iI 0))] [.ref 40] _ _ _ _
      refine pm_e_sim pm_a209_39 rfl ?_
      show pm_E _ _ _ 40 [(0, .ref 18), (1, .int (iI i)), (2, .int (iI 0))] [.ref 18, .ref 40] _ _ _ _
      refine pm_e_sim pm_a209_40 rfl ?_
      show pm_E _ _ _ 41 [(0, .ref 18), (1, .int (iI i)), (2, .int (iI 0))] [.int (iI i), .ref 18, .ref 40] _ _ _ _
      refine pm_i_callv (k := 18) (T2 := pm_mm207) pm_a209_41 rfl rfl rfl (mh_get (j := 0) hA rfl) ⟨Nat.le_of_ble_eq_true rfl, Nat.le_of_ble_eq_true rfl, rfl, by decide +kernel⟩ ?_
      show pm_E none _ _ 0 [(0, .ref 18), (1, .int (iI i))] [] _ _ _ _
      refine M_root hA hFa (by omega) (by omega) (by omega) (fun r4 p4 q4 z4 => ?_)
      have m4 := hmk r4 p4 q4
      show pm_E _ _ _ 44 [(0, .ref 18), (1, .int (iI i)), (2, .int (iI 0))] [.int (iI r4), .ref 40] _ _ _ _
      refine pm_i_ald pm_a209_44 (mh_get (j := 22) hA rfl) (by omega) (by omega) ⟨by omega, by omega⟩ ?_
      show pm_E _ _ _ 45 [(0, .ref 18), (1, .int (iI i)), (2, .int (iI 0))] [.int (iI ((a 22) (r4)))] _ _ _ _
      refine pm_i_ne (t := 73) pm_a209_45 rfl ⟨by omega, by omega⟩ (fun h_2 => ?_) (fun h_2 => ?_)
      · skip
        show pm_E _ _ _ 73 [(0, .ref 18), (1, .int (iI i)), (2, .int (iI 0))] [] _ _ _ _
        have hc9 := cn0_le (B := a 22) (n := (s 32).toNat)
        refine M_isFin_2 hA hF hK (2 * s 32 + 2).toNat 0 a (by omega) fA hmk (fun j z y => by omega) (by omega) ?_ kf (by omega)
        · intro a5 fA5 hmk5 w'
          refine pm_e_inc (y := iI (i + 1)) pm_a209_247 rfl (iI_add _ _) (by decide +kernel) rfl ?_
          show pm_E _ _ _ 250 [(0, .ref 18), (1, .int (iI (i + 1))), (2, .int (iI (w')))] [] _ _ _ _
          refine pm_e_goto pm_a209_250 rfl ?_
          show pm_E _ _ _ 25 [(0, .ref 18), (1, .int (iI (i + 1))), (2, .int (iI (w')))] [] _ _ _ _
          show pm_E _ _ _ 25 ([(0, .ref 18), (1, .int (iI (i + 1)))] ++ [(2, .int (iI (w')))]) [] _ _ _ _
          refine pm_e_more [(2, .int (iI (w')))] (show ([0, 1, 2] : List Nat).Nodup from by decide) ?_
          exact ih (i + 1) a5 (by omega) (by omega) fA5 hmk5 k kf (by omega)
      · skip
        show pm_E _ _ _ 48 [(0, .ref 18), (1, .int (iI i)), (2, .int (iI 0))] [] _ _ _ _
        refine pm_e_sim pm_a209_48 rfl ?_
        show pm_E _ _ _ 49 [(0, .ref 18), (1, .int (iI i)), (2, .int (iI 0))] [.ref 18] _ _ _ _
        refine pm_i_get pm_a209_49 rfl (mh_get (j := 0) hA rfl) rfl ?_
        show pm_E _ _ _ 52 [(0, .ref 18), (1, .int (iI i)), (2, .int (iI 0))] [.ref 41] _ _ _ _
        refine pm_e_sim pm_a209_52 rfl ?_
        refine pm_e_top (y := iI 0) (by decide +kernel) ?_
        show pm_E _ _ _ 53 [(0, .ref 18), (1, .int (iI i)), (2, .int (iI 0))] [.int (iI 0), .ref 41] _ _ _ _
        refine pm_e_sim pm_a209_53 rfl ?_
        show pm_E _ _ _ 54 [(0, .ref 18), (1, .int (iI i)), (2, .int (iI 0))] [.ref 18, .int (iI 0), .ref 41] _ _ _ _
        refine pm_e_sim pm_a209_54 rfl ?_
        show pm_E _ _ _ 55 [(0, .ref 18), (1, .int (iI i)), (2, .int (iI 0))] [.int (iI i), .ref 18, .int (iI 0), .ref 41] _ _ _ _
        refine pm_i_callv (k := 18) (T2 := pm_mm207) pm_a209_55 rfl rfl rfl (mh_get (j := 0) hA rfl) ⟨Nat.le_of_ble_eq_true rfl, Nat.le_of_ble_eq_true rfl, rfl, by decide +kernel⟩ ?_
        show pm_E none _ _ 0 [(0, .ref 18), (1, .int (iI i))] [] _ _ _ _
        refine M_root hA hFa (by omega) (by omega) (by omega) (fun r5 p5 q5 z5 => ?_)
        have m5 := hmk r5 p5 q5
        show pm_E _ _ _ 58 [(0, .ref 18), (1, .int (iI i)), (2, .int (iI 0))] [.int (iI r5), .int (iI 0), .ref 41] _ _ _ _
        refine pm_i_ast pm_a209_58 (mh_get (j := 23) hA rfl) (by omega) (by omega) ⟨by omega, by omega⟩ (ma_23 hA _) ?_
        show pm_E _ _ _ 59 [(0, .ref 18), (1, .int (iI i)), (2, .int (iI 0))] [] _ _ _ _
        refine pm_e_sim pm_a209_59 rfl ?_
        show pm_E _ _ _ 60 [(0, .ref 18), (1, .int (iI i)), (2, .int (iI 0))] [.ref 18] _ _ _ _
        refine pm_i_get pm_a209_60 rfl (mh_get (j := 0) hA rfl) rfl ?_
        show pm_E _ _ _ 63 [(0, .ref 18), (1, .int (iI i)), (2, .int (iI 0))] [.ref 40] _ _ _ _
        refine pm_e_sim pm_a209_63 rfl ?_
        show pm_E _ _ _ 64 [(0, .ref 18), (1, .int (iI i)), (2, .int (iI 0))] [.ref 18, .ref 40] _ _ _ _
        refine pm_i_get pm_a209_64 rfl (mh_get (j := 0) hA rfl) rfl ?_
        show pm_E _ _ _ 67 [(0, .ref 18), (1, .int (iI i)), (2, .int (iI 0))] [.ref 41, .ref 40] _ _ _ _
        refine pm_e_sim pm_a209_67 rfl ?_
        refine pm_e_top (y := iI 0) (by decide +kernel) ?_
        show pm_E _ _ _ 68 [(0, .ref 18), (1, .int (iI i)), (2, .int (iI 0))] [.int (iI 0), .ref 41, .ref 40] _ _ _ _
        refine pm_i_ald pm_a209_68 (mh_get (j := 23) hA rfl) (by omega) (by omega) ⟨by omega, by omega⟩ ?_
        show pm_E _ _ _ 69 [(0, .ref 18), (1, .int (iI i)), (2, .int (iI 0))] [.int (iI ((updI (a 23) (0) (r5)) (0))), .ref 40] _ _ _ _
        refine pm_e_sim pm_a209_69 rfl ?_
        refine pm_e_top (y := iI 1) (by decide +kernel) ?_
        show pm_E _ _ _ 70 [(0, .ref 18), (1, .int (iI i)), (2, .int (iI 0))] [.int (iI 1), .int (iI ((updI (a 23) (0) (r5)) (0))), .ref 40] _ _ _ _
        have hz8 : (updI (a 23) 0 r5) 0 = r5 := updI_s _ _ _
        refine pm_i_ast pm_a209_70 (mh_get (j := 22) hA rfl) (by omega) (by omega) ⟨by omega, by omega⟩ (ma_22 hA _) ?_
        show pm_E _ _ _ 71 [(0, .ref 18), (1, .int (iI i)), (2, .int (iI 0))] [] _ _ _ _
        refine pm_e_sim pm_a209_71 rfl ?_
        refine pm_e_top (y := iI 1) (by decide +kernel) ?_
        show pm_E _ _ _ 72 [(0, .ref 18), (1, .int (iI i)), (2, .int (iI 0))] [.int (iI 1)] _ _ _ _
        refine pm_e_sim pm_a209_72 rfl ?_
        show pm_E _ _ _ 73 [(0, .ref 18), (1, .int (iI i)), (2, .int (iI 1))] [] _ _ _ _
        have hz9 : (updI (a 23) 0 r5) 0 = r5 := updI_s _ _ _
        have m9 := hmk r5 (by omega) (by omega)
        rw [hz9]
        have h9 := cn0_dn (B := a 22) (g := r5) (y := 1) (by omega) (n := (s 32).toNat)
        have h8 : cn0 (updI (a 22) r5 1) (s 32).toNat + 1 ≤ s 32 := cn0_lt (by omega) (by omega) (by omega)
        refine M_isFin_2 hA hF hK (2 * s 32 + 2).toNat 1 _ (by omega) (fun j h1 h2 => by simp [updA, h1, h2, fA j h1 h2]) (fun j z y => ?_) (fun j z y => ?_) ?_ ?_ kf ?_
        · show 0 ≤ updI (a 22) _ 1 j ∧ updI (a 22) _ 1 j ≤ 2; have := hmk j z y; unfold updI; split <;> omega
        · rw [show j = 0 by omega]; show 0 ≤ updI (a 23) 0 r5 0 ∧ updI (a 23) 0 r5 0 < s 32; omega
        · show 1 + cn0 (updI (a 22) r5 1) _ ≤ _; omega
        · intro a5 fA5 hmk5 w'
          refine pm_e_inc (y := iI (i + 1)) pm_a209_247 rfl (iI_add _ _) (by decide +kernel) rfl ?_
          show pm_E _ _ _ 250 [(0, .ref 18), (1, .int (iI (i + 1))), (2, .int (iI (w')))] [] _ _ _ _
          refine pm_e_goto pm_a209_250 rfl ?_
          show pm_E _ _ _ 25 [(0, .ref 18), (1, .int (iI (i + 1))), (2, .int (iI (w')))] [] _ _ _ _
          show pm_E _ _ _ 25 ([(0, .ref 18), (1, .int (iI (i + 1)))] ++ [(2, .int (iI (w')))]) [] _ _ _ _
          refine pm_e_more [(2, .int (iI (w')))] (show ([0, 1, 2] : List Nat).Nodup from by decide) ?_
          exact ih (i + 1) a5 (by omega) (by omega) fA5 hmk5 k kf (by omega)
        · have hc8 := cn0_le (B := updI (a 22) r5 1) (n := (s 32).toNat); show 2 * cn0 (updI (a 22) r5 1) _ + 1 < _; omega
set_option maxHeartbeats 4000000 in
set_option maxRecDepth 100000 in
theorem M_isFinite {d : Nat} {A B : List va_E} {s : Nat → Int} {vl : Int64} {a : Nat → Int → Int} {nm : Nat → Int64} {Q : Option Value → List va_E → Nat → Nat → Prop} (hA : A.length = 18) (hF : FI (a 17) (a 18) (a 19) (s 32)) (hK : s 32 ≤ 6000) (k : ∀ (r : Int), (r = 0 ∨ r = 1) → ∀ (a' : Nat → Int → Int), (∀ j, j ≠ 22 → j ≠ 23 → a' j = a j) → Q (some (.int (iI r))) (mh A s vl a' nm B) 0 0) : pm_E none (d + 1) pm_mm209 0 [(0, .ref 18)] [] (mh A s vl a nm B) 0 0 Q := by
  have hK0 := hF.1
  refine pm_e_sim pm_a209_0 rfl ?_
  refine pm_e_top (y := iI 0) (by decide +kernel) ?_
  show pm_E _ _ _ 1 [(0, .ref 18)] [.int (iI 0)] _ _ _ _
  refine pm_e_sim pm_a209_1 rfl ?_
  show pm_E _ _ _ 2 [(0, .ref 18), (1, .int (iI 0))] [] _ _ _ _
  refine M_isFin_1 (a0 := a) hA hF hK (s 32 + 1).toNat 0 a (by omega) (by omega) (fun j _ _ => rfl) (fun j z y => by omega) ?_ (by omega)
  intro a1 fA1 hm1 i1
  refine pm_e_sim pm_a209_23 rfl ?_
  refine pm_e_top (y := iI 0) (by decide +kernel) ?_
  show pm_E _ _ _ 24 [(0, .ref 18), (1, .int (iI i1))] [.int (iI 0)] _ _ _ _
  refine pm_e_sim pm_a209_24 rfl ?_
  show pm_E _ _ _ 25 [(0, .ref 18), (1, .int (iI 0))] [] _ _ _ _
  exact M_isFin_3 (a0 := a) hA hF hK (s 32 + 1).toNat 0 a1 (by omega) (by omega) fA1 (fun j z y => by rw [hm1 j z y]; omega) (k 1 (Or.inr rfl)) (k 0 (Or.inl rfl)) (by omega)
