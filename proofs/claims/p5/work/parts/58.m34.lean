/-! THE REFERENCE: say, sayName, sayTerm, letter -/
theorem pm_bd_c {f : Int32 → Int32 → Int32} {x y : Int32} {lv : pm_L} {r : List Value} (h : y ≠ 0) : pm_bd f lv (.int y :: .int x :: r) = some (lv, .int (f x y) :: r) := if_neg h
theorem pm_e_hav {scr : Option (Nat × (Nat → Int32))} {d : Nat} {T : pm_M} {pc : Nat} {lv : pm_L} {st : List Value} {ph : List va_E} {nc ns : Nat} {Q : Option Value → List va_E → Nat → Nat → Prop} {x : Int32} (k : ∀ z, in32 z → pm_E scr d T pc lv (.int (iI z) :: st) ph nc ns Q) : pm_E scr d T pc lv (.int x :: st) ph nc ns Q := by
  have := k x.toInt (in32_of x)
  rw [iI_of] at this
  exact this
theorem pm_i_div {scr : Option (Nat × (Nat → Int32))} {d : Nat} {T : pm_M} {pc : Nat} {lv : pm_L} {st : List Value} {ph : List va_E} {nc ns : Nat} {Q : Option Value → List va_E → Nat → Nat → Prop} {x y : Int32} {len : Nat} (h0 : pm_as (pm_cd T) pc = some (.idiv, len)) (hy : y ≠ 0) (k : ∀ z, in32 z → pm_E scr d T (pc + 1) lv (.int (iI z) :: st) ph nc ns Q) : pm_E scr d T pc lv (.int y :: .int x :: st) ph nc ns Q :=
  pm_e_sim h0 (show pm_bd _ _ _ = _ from pm_bd_c hy) (pm_e_hav k)
theorem pm_i_rem {scr : Option (Nat × (Nat → Int32))} {d : Nat} {T : pm_M} {pc : Nat} {lv : pm_L} {st : List Value} {ph : List va_E} {nc ns : Nat} {Q : Option Value → List va_E → Nat → Nat → Prop} {x y : Int32} {len : Nat} (h0 : pm_as (pm_cd T) pc = some (.irem, len)) (hy : y ≠ 0) (k : ∀ z, in32 z → pm_E scr d T (pc + 1) lv (.int (iI z) :: st) ph nc ns Q) : pm_E scr d T pc lv (.int y :: .int x :: st) ph nc ns Q :=
  pm_e_sim h0 (show pm_bd _ _ _ = _ from pm_bd_c (f := fun x y => x - x / y * y) hy) (pm_e_hav k)
/-- the sum of the first n -/
def sum9 (g : Int → Int) : Nat → Int
  | 0 => 0
  | n + 1 => sum9 g n + g n
theorem sum9_eq {g g' : Int → Int} : ∀ {n : Nat}, (∀ j, 0 ≤ j → j < (n : Int) → g' j = g j) → sum9 g' n = sum9 g n := by
  intro n
  induction n with
  | zero => intro _; rfl
  | succ n ih =>
    intro h
    show sum9 g' n + g' n = sum9 g n + g n
    rw [ih (fun j z y => h j z (by omega)), h n (by omega) (by omega)]
theorem sum9_up {g : Int → Int} {q : Int} : ∀ {n : Nat}, 0 ≤ q → q < n → sum9 (updI g q (g q + 1)) n = sum9 g n + 1 := by
  intro n
  induction n with
  | zero => intro h0 h1; omega
  | succ n ih =>
    intro h0 h1
    show sum9 _ n + updI g q (g q + 1) n = sum9 g n + g n + 1
    by_cases hq : q = n
    · subst hq
      rw [updI_s, sum9_eq (g := g) (fun j z y => updI_n _ _ (by omega))]
      omega
    · rw [ih h0 (by omega), updI_n _ _ (by omega)]
      omega
theorem sum9_le {g : Int → Int} {m : Nat} : ∀ {n : Nat}, m ≤ n → (∀ j, 0 ≤ j → j < (n : Int) → 0 ≤ g j) → sum9 g m ≤ sum9 g n := by
  intro n
  induction n with
  | zero => intro h _; rw [show m = 0 by omega]; omega
  | succ n ih =>
    intro h hg
    by_cases hm : m = n + 1
    · rw [hm]; omega
    · have := ih (by omega) (fun j z y => hg j z (by omega))
      have := hg n (by omega) (by omega)
      show sum9 g m ≤ sum9 g n + g n
      omega
set_option maxHeartbeats 4000000 in
set_option maxRecDepth 100000 in
theorem M_say {d : Nat} {A B : List va_E} {s : Nat → Int} {vl : Int64} {a : Nat → Int → Int} {nm : Nat → Int64} {Q : Option Value → List va_E → Nat → Nat → Prop} {x : Int} (hA : A.length = 18) (h0 : 0 ≤ s 23) (h1 : s 23 < 6000) (k : Q none (mh A (updS s 23 (s 23 + 1)) vl (updA a 11 (updI (a 11) (s 23) x)) nm B) 0 0) : pm_E none d pm_mm172 0 [(0, .ref 18), (1, .int (iI x))] [] (mh A s vl a nm B) 0 0 Q := by
  refine pm_e_sim pm_a172_0 rfl ?_
  show pm_E _ _ _ 1 [(0, .ref 18), (1, .int (iI x))] [.ref 18] _ _ _ _
  refine pm_i_get pm_a172_1 rfl (mh_get (j := 0) hA rfl) rfl ?_
  show pm_E _ _ _ 4 [(0, .ref 18), (1, .int (iI x))] [.ref 29] _ _ _ _
  refine pm_e_sim pm_a172_4 rfl ?_
  show pm_E _ _ _ 5 [(0, .ref 18), (1, .int (iI x))] [.ref 18, .ref 29] _ _ _ _
  refine pm_i_get pm_a172_5 rfl (mh_get (j := 0) hA rfl) rfl ?_
  show pm_E _ _ _ 8 [(0, .ref 18), (1, .int (iI x))] [.int (iI (s 23)), .ref 29] _ _ _ _
  refine pm_e_sim pm_a172_8 rfl ?_
  show pm_E _ _ _ 9 [(0, .ref 18), (1, .int (iI x))] [.int (iI x), .int (iI (s 23)), .ref 29] _ _ _ _
  refine pm_i_ast pm_a172_9 (mh_get (j := 11) hA rfl) (by omega) (by omega) ⟨by omega, by omega⟩ (ma_11 hA _) ?_
  show pm_E _ _ _ 10 [(0, .ref 18), (1, .int (iI x))] [] _ _ _ _
  refine pm_e_sim pm_a172_10 rfl ?_
  show pm_E _ _ _ 11 [(0, .ref 18), (1, .int (iI x))] [.ref 18] _ _ _ _
  refine pm_e_sim pm_a172_11 rfl ?_
  show pm_E _ _ _ 12 [(0, .ref 18), (1, .int (iI x))] [.ref 18, .ref 18] _ _ _ _
  refine pm_i_get pm_a172_12 rfl (mh_get (j := 0) hA rfl) rfl ?_
  show pm_E _ _ _ 15 [(0, .ref 18), (1, .int (iI x))] [.int (iI (s 23)), .ref 18] _ _ _ _
  refine pm_e_sim pm_a172_15 rfl ?_
  refine pm_e_top (y := iI 1) (by decide +kernel) ?_
  show pm_E _ _ _ 16 [(0, .ref 18), (1, .int (iI x))] [.int (iI 1), .int (iI (s 23)), .ref 18] _ _ _ _
  refine pm_e_sim pm_a172_16 rfl ?_
  refine pm_e_top (y := iI (s 23 + 1)) (iI_add _ _) ?_
  show pm_E _ _ _ 17 [(0, .ref 18), (1, .int (iI x))] [.int (iI (s 23 + 1)), .ref 18] _ _ _ _
  refine pm_i_put pm_a172_17 rfl (mh_get (j := 0) hA rfl) rfl (Nat.le_of_ble_eq_true rfl) (Or.inl rfl) (mw_23 hA _) ?_
  show pm_E _ _ _ 20 [(0, .ref 18), (1, .int (iI x))] [] _ _ _ _
  refine pm_e_ret pm_a172_20 rfl rfl rfl rfl rfl rfl rfl rfl ?_
  exact k
set_option maxHeartbeats 4000000 in
set_option maxRecDepth 100000 in
theorem M_sayName {d : Nat} {A B : List va_E} {s : Nat → Int} {vl : Int64} {a : Nat → Int → Int} {nm : Nat → Int64} {Q : Option Value → List va_E → Nat → Nat → Prop} {x : Int} (hA : A.length = 18) (hx : in32 x) (h0 : 0 ≤ s 23) (h1 : s 23 < 5990) (k : ∀ s' a', (∀ j, j ≠ 23 → s' j = s j) → (∀ j, j ≠ 11 → a' j = a j) → s 23 ≤ s' 23 → s' 23 ≤ s 23 + 2 → Q none (mh A s' vl a' nm B) 0 0) : pm_E none (d + 1) pm_mm173 0 [(0, .ref 18), (1, .int (iI x))] [] (mh A s vl a nm B) 0 0 Q := by
  refine pm_e_sim pm_a173_0 rfl ?_
  show pm_E _ _ _ 1 [(0, .ref 18), (1, .int (iI x))] [.int (iI x)] _ _ _ _
  refine pm_e_sim pm_a173_1 rfl ?_
  refine pm_e_top (y := iI 25) (by decide +kernel) ?_
  show pm_E _ _ _ 3 [(0, .ref 18), (1, .int (iI x))] [.int (iI 25), .int (iI x)] _ _ _ _
  refine pm_c_le (t := 20) pm_a173_3 rfl ⟨by omega, by omega⟩ ⟨by omega, by omega⟩ (fun h_1 => ?_) (fun h_1 => ?_)
  · skip
    show pm_E _ _ _ 20 [(0, .ref 18), (1, .int (iI x))] [] _ _ _ _
    refine pm_e_sim pm_a173_20 rfl ?_
    show pm_E _ _ _ 21 [(0, .ref 18), (1, .int (iI x))] [.ref 18] _ _ _ _
    refine pm_e_sim pm_a173_21 rfl ?_
    refine pm_e_top (y := iI 97) (by decide +kernel) ?_
    show pm_E _ _ _ 23 [(0, .ref 18), (1, .int (iI x))] [.int (iI 97), .ref 18] _ _ _ _
    refine pm_e_sim pm_a173_23 rfl ?_
    show pm_E _ _ _ 24 [(0, .ref 18), (1, .int (iI x))] [.int (iI x), .int (iI 97), .ref 18] _ _ _ _
    refine pm_e_sim pm_a173_24 rfl ?_
    refine pm_e_top (y := iI 25) (by decide +kernel) ?_
    show pm_E _ _ _ 26 [(0, .ref 18), (1, .int (iI x))] [.int (iI 25), .int (iI x), .int (iI 97), .ref 18] _ _ _ _
    refine pm_c_le (t := 39) pm_a173_26 rfl ⟨by omega, by omega⟩ ⟨by omega, by omega⟩ (fun h_2 => ?_) (fun h_2 => ?_)
    · skip
      show pm_E _ _ _ 39 [(0, .ref 18), (1, .int (iI x))] [.int (iI 97), .ref 18] _ _ _ _
      refine pm_e_sim pm_a173_39 rfl ?_
      show pm_E _ _ _ 40 [(0, .ref 18), (1, .int (iI x))] [.int (iI x), .int (iI 97), .ref 18] _ _ _ _
      refine pm_e_sim pm_a173_40 rfl ?_
      refine pm_e_top (y := iI (97 + x)) (iI_add _ _) ?_
      show pm_E _ _ _ 41 [(0, .ref 18), (1, .int (iI x))] [.int (iI (97 + x)), .ref 18] _ _ _ _
      refine pm_i_callv (k := 18) (T2 := pm_mm172) pm_a173_41 rfl rfl rfl (mh_get (j := 0) hA rfl) ⟨Nat.le_of_ble_eq_true rfl, Nat.le_of_ble_eq_true rfl, rfl, by decide +kernel⟩ ?_
      show pm_E none _ _ 0 [(0, .ref 18), (1, .int (iI (97 + x)))] [] _ _ _ _
      refine M_say hA (by omega) (by omega) ?_
      obtain ⟨s1_, es1⟩ : ∃ z, z = updS s 23 (s 23 + 1) := ⟨_, rfl⟩
      obtain ⟨a1_, ea1⟩ : ∃ z, z = updA a 11 (updI (a 11) (s 23) (97 + x)) := ⟨_, rfl⟩
      rw [← es1, ← ea1]
      have fs1 : ∀ j, j ≠ 23 → s1_ j = s j := fun j hj => by rw [es1]; simp [updS, hj]
      have fa1 : ∀ j, j ≠ 11 → a1_ j = a j := fun j hj => by rw [ea1]; simp [updA, hj]
      have t1 : s1_ 23 = s 23 + 1 := by rw [es1]; rfl
      show pm_E _ _ _ 44 [(0, .ref 18), (1, .int (iI x))] [] _ _ _ _
      refine pm_e_ret pm_a173_44 rfl rfl rfl rfl rfl rfl rfl rfl ?_
      exact k _ _ fs1 fa1 (by omega) (by omega)
    · skip
      show pm_E _ _ _ 29 [(0, .ref 18), (1, .int (iI x))] [.int (iI 97), .ref 18] _ _ _ _
      refine pm_e_sim pm_a173_29 rfl ?_
      show pm_E _ _ _ 30 [(0, .ref 18), (1, .int (iI x))] [.int (iI x), .int (iI 97), .ref 18] _ _ _ _
      refine pm_e_sim pm_a173_30 rfl ?_
      refine pm_e_top (y := iI 26) (by decide +kernel) ?_
      show pm_E _ _ _ 32 [(0, .ref 18), (1, .int (iI x))] [.int (iI 26), .int (iI x), .int (iI 97), .ref 18] _ _ _ _
      refine pm_e_sim pm_a173_32 rfl ?_
      refine pm_e_top (y := iI (x - 26)) (iI_sub _ _) ?_
      show pm_E _ _ _ 33 [(0, .ref 18), (1, .int (iI x))] [.int (iI (x - 26)), .int (iI 97), .ref 18] _ _ _ _
      refine pm_e_sim pm_a173_33 rfl ?_
      refine pm_e_top (y := iI 26) (by decide +kernel) ?_
      show pm_E _ _ _ 35 [(0, .ref 18), (1, .int (iI x))] [.int (iI 26), .int (iI (x - 26)), .int (iI 97), .ref 18] _ _ _ _
      refine pm_i_rem pm_a173_35 (by decide +kernel) (fun z_3 bz_3 => ?_)
      obtain ⟨_, _⟩ := bz_3
      show pm_E _ _ _ 36 [(0, .ref 18), (1, .int (iI x))] [.int (iI z_3), .int (iI 97), .ref 18] _ _ _ _
      refine pm_e_goto pm_a173_36 rfl ?_
      show pm_E _ _ _ 40 [(0, .ref 18), (1, .int (iI x))] [.int (iI z_3), .int (iI 97), .ref 18] _ _ _ _
      refine pm_e_sim pm_a173_40 rfl ?_
      refine pm_e_top (y := iI (97 + z_3)) (iI_add _ _) ?_
      show pm_E _ _ _ 41 [(0, .ref 18), (1, .int (iI x))] [.int (iI (97 + z_3)), .ref 18] _ _ _ _
      refine pm_i_callv (k := 18) (T2 := pm_mm172) pm_a173_41 rfl rfl rfl (mh_get (j := 0) hA rfl) ⟨Nat.le_of_ble_eq_true rfl, Nat.le_of_ble_eq_true rfl, rfl, by decide +kernel⟩ ?_
      show pm_E none _ _ 0 [(0, .ref 18), (1, .int (iI (97 + z_3)))] [] _ _ _ _
      refine M_say hA (by omega) (by omega) ?_
      obtain ⟨s2_, es2⟩ : ∃ z, z = updS s 23 (s 23 + 1) := ⟨_, rfl⟩
      obtain ⟨a2_, ea2⟩ : ∃ z, z = updA a 11 (updI (a 11) (s 23) (97 + z_3)) := ⟨_, rfl⟩
      rw [← es2, ← ea2]
      have fs2 : ∀ j, j ≠ 23 → s2_ j = s j := fun j hj => by rw [es2]; simp [updS, hj]
      have fa2 : ∀ j, j ≠ 11 → a2_ j = a j := fun j hj => by rw [ea2]; simp [updA, hj]
      have t2 : s2_ 23 = s 23 + 1 := by rw [es2]; rfl
      show pm_E _ _ _ 44 [(0, .ref 18), (1, .int (iI x))] [] _ _ _ _
      refine pm_e_ret pm_a173_44 rfl rfl rfl rfl rfl rfl rfl rfl ?_
      exact k _ _ fs2 fa2 (by omega) (by omega)
  · skip
    show pm_E _ _ _ 6 [(0, .ref 18), (1, .int (iI x))] [] _ _ _ _
    refine pm_e_sim pm_a173_6 rfl ?_
    show pm_E _ _ _ 7 [(0, .ref 18), (1, .int (iI x))] [.ref 18] _ _ _ _
    refine pm_e_sim pm_a173_7 rfl ?_
    refine pm_e_top (y := iI 97) (by decide +kernel) ?_
    show pm_E _ _ _ 9 [(0, .ref 18), (1, .int (iI x))] [.int (iI 97), .ref 18] _ _ _ _
    refine pm_e_sim pm_a173_9 rfl ?_
    show pm_E _ _ _ 10 [(0, .ref 18), (1, .int (iI x))] [.int (iI x), .int (iI 97), .ref 18] _ _ _ _
    refine pm_e_sim pm_a173_10 rfl ?_
    refine pm_e_top (y := iI 26) (by decide +kernel) ?_
    show pm_E _ _ _ 12 [(0, .ref 18), (1, .int (iI x))] [.int (iI 26), .int (iI x), .int (iI 97), .ref 18] _ _ _ _
    refine pm_e_sim pm_a173_12 rfl ?_
    refine pm_e_top (y := iI (x - 26)) (iI_sub _ _) ?_
    show pm_E _ _ _ 13 [(0, .ref 18), (1, .int (iI x))] [.int (iI (x - 26)), .int (iI 97), .ref 18] _ _ _ _
    refine pm_e_sim pm_a173_13 rfl ?_
    refine pm_e_top (y := iI 26) (by decide +kernel) ?_
    show pm_E _ _ _ 15 [(0, .ref 18), (1, .int (iI x))] [.int (iI 26), .int (iI (x - 26)), .int (iI 97), .ref 18] _ _ _ _
    refine pm_i_div pm_a173_15 (by decide +kernel) (fun z_4 bz_4 => ?_)
    obtain ⟨_, _⟩ := bz_4
    show pm_E _ _ _ 16 [(0, .ref 18), (1, .int (iI x))] [.int (iI z_4), .int (iI 97), .ref 18] _ _ _ _
    refine pm_e_sim pm_a173_16 rfl ?_
    refine pm_e_top (y := iI (97 + z_4)) (iI_add _ _) ?_
    show pm_E _ _ _ 17 [(0, .ref 18), (1, .int (iI x))] [.int (iI (97 + z_4)), .ref 18] _ _ _ _
    refine pm_i_callv (k := 18) (T2 := pm_mm172) pm_a173_17 rfl rfl rfl (mh_get (j := 0) hA rfl) ⟨Nat.le_of_ble_eq_true rfl, Nat.le_of_ble_eq_true rfl, rfl, by decide +kernel⟩ ?_
    show pm_E none _ _ 0 [(0, .ref 18), (1, .int (iI (97 + z_4)))] [] _ _ _ _
    refine M_say hA (by omega) (by omega) ?_
    obtain ⟨s3_, es3⟩ : ∃ z, z = updS s 23 (s 23 + 1) := ⟨_, rfl⟩
    obtain ⟨a3_, ea3⟩ : ∃ z, z = updA a 11 (updI (a 11) (s 23) (97 + z_4)) := ⟨_, rfl⟩
    rw [← es3, ← ea3]
    have fs3 : ∀ j, j ≠ 23 → s3_ j = s j := fun j hj => by rw [es3]; simp [updS, hj]
    have fa3 : ∀ j, j ≠ 11 → a3_ j = a j := fun j hj => by rw [ea3]; simp [updA, hj]
    have t3 : s3_ 23 = s 23 + 1 := by rw [es3]; rfl
    show pm_E _ _ _ 20 [(0, .ref 18), (1, .int (iI x))] [] _ _ _ _
    refine pm_e_sim pm_a173_20 rfl ?_
    show pm_E _ _ _ 21 [(0, .ref 18), (1, .int (iI x))] [.ref 18] _ _ _ _
    refine pm_e_sim pm_a173_21 rfl ?_
    refine pm_e_top (y := iI 97) (by decide +kernel) ?_
    show pm_E _ _ _ 23 [(0, .ref 18), (1, .int (iI x))] [.int (iI 97), .ref 18] _ _ _ _
    refine pm_e_sim pm_a173_23 rfl ?_
    show pm_E _ _ _ 24 [(0, .ref 18), (1, .int (iI x))] [.int (iI x), .int (iI 97), .ref 18] _ _ _ _
    refine pm_e_sim pm_a173_24 rfl ?_
    refine pm_e_top (y := iI 25) (by decide +kernel) ?_
    show pm_E _ _ _ 26 [(0, .ref 18), (1, .int (iI x))] [.int (iI 25), .int (iI x), .int (iI 97), .ref 18] _ _ _ _
    refine pm_c_le (t := 39) pm_a173_26 rfl ⟨by omega, by omega⟩ ⟨by omega, by omega⟩ (fun h_5 => ?_) (fun h_5 => ?_)
    · skip
      show pm_E _ _ _ 39 [(0, .ref 18), (1, .int (iI x))] [.int (iI 97), .ref 18] _ _ _ _
      refine pm_e_sim pm_a173_39 rfl ?_
      show pm_E _ _ _ 40 [(0, .ref 18), (1, .int (iI x))] [.int (iI x), .int (iI 97), .ref 18] _ _ _ _
      refine pm_e_sim pm_a173_40 rfl ?_
      refine pm_e_top (y := iI (97 + x)) (iI_add _ _) ?_
      show pm_E _ _ _ 41 [(0, .ref 18), (1, .int (iI x))] [.int (iI (97 + x)), .ref 18] _ _ _ _
      refine pm_i_callv (k := 18) (T2 := pm_mm172) pm_a173_41 rfl rfl rfl (mh_get (j := 0) hA rfl) ⟨Nat.le_of_ble_eq_true rfl, Nat.le_of_ble_eq_true rfl, rfl, by decide +kernel⟩ ?_
      show pm_E none _ _ 0 [(0, .ref 18), (1, .int (iI (97 + x)))] [] _ _ _ _
      refine M_say hA (by omega) (by omega) ?_
      obtain ⟨s4_, es4⟩ : ∃ z, z = updS s3_ 23 (s3_ 23 + 1) := ⟨_, rfl⟩
      obtain ⟨a4_, ea4⟩ : ∃ z, z = updA a3_ 11 (updI (a3_ 11) (s3_ 23) (97 + x)) := ⟨_, rfl⟩
      rw [← es4, ← ea4]
      have fs4 : ∀ j, j ≠ 23 → s4_ j = s j := fun j hj => by rw [es4]; simp [updS, hj, fs3 j hj]
      have fa4 : ∀ j, j ≠ 11 → a4_ j = a j := fun j hj => by rw [ea4]; simp [updA, hj, fa3 j hj]
      have t4 : s4_ 23 = s3_ 23 + 1 := by rw [es4]; rfl
      show pm_E _ _ _ 44 [(0, .ref 18), (1, .int (iI x))] [] _ _ _ _
      refine pm_e_ret pm_a173_44 rfl rfl rfl rfl rfl rfl rfl rfl ?_
      exact k _ _ fs4 fa4 (by omega) (by omega)
    · skip
      show pm_E _ _ _ 29 [(0, .ref 18), (1, .int (iI x))] [.int (iI 97), .ref 18] _ _ _ _
      refine pm_e_sim pm_a173_29 rfl ?_
      show pm_E _ _ _ 30 [(0, .ref 18), (1, .int (iI x))] [.int (iI x), .int (iI 97), .ref 18] _ _ _ _
      refine pm_e_sim pm_a173_30 rfl ?_
      refine pm_e_top (y := iI 26) (by decide +kernel) ?_
      show pm_E _ _ _ 32 [(0, .ref 18), (1, .int (iI x))] [.int (iI 26), .int (iI x), .int (iI 97), .ref 18] _ _ _ _
      refine pm_e_sim pm_a173_32 rfl ?_
      refine pm_e_top (y := iI (x - 26)) (iI_sub _ _) ?_
      show pm_E _ _ _ 33 [(0, .ref 18), (1, .int (iI x))] [.int (iI (x - 26)), .int (iI 97), .ref 18] _ _ _ _
      refine pm_e_sim pm_a173_33 rfl ?_
      refine pm_e_top (y := iI 26) (by decide +kernel) ?_
      show pm_E _ _ _ 35 [(0, .ref 18), (1, .int (iI x))] [.int (iI 26), .int (iI (x - 26)), .int (iI 97), .ref 18] _ _ _ _
      refine pm_i_rem pm_a173_35 (by decide +kernel) (fun z_6 bz_6 => ?_)
      obtain ⟨_, _⟩ := bz_6
      show pm_E _ _ _ 36 [(0, .ref 18), (1, .int (iI x))] [.int (iI z_6), .int (iI 97), .ref 18] _ _ _ _
      refine pm_e_goto pm_a173_36 rfl ?_
      show pm_E _ _ _ 40 [(0, .ref 18), (1, .int (iI x))] [.int (iI z_6), .int (iI 97), .ref 18] _ _ _ _
      refine pm_e_sim pm_a173_40 rfl ?_
      refine pm_e_top (y := iI (97 + z_6)) (iI_add _ _) ?_
      show pm_E _ _ _ 41 [(0, .ref 18), (1, .int (iI x))] [.int (iI (97 + z_6)), .ref 18] _ _ _ _
      refine pm_i_callv (k := 18) (T2 := pm_mm172) pm_a173_41 rfl rfl rfl (mh_get (j := 0) hA rfl) ⟨Nat.le_of_ble_eq_true rfl, Nat.le_of_ble_eq_true rfl, rfl, by decide +kernel⟩ ?_
      show pm_E none _ _ 0 [(0, .ref 18), (1, .int (iI (97 + z_6)))] [] _ _ _ _
      refine M_say hA (by omega) (by omega) ?_
      obtain ⟨s5_, es5⟩ : ∃ z, z = updS s3_ 23 (s3_ 23 + 1) := ⟨_, rfl⟩
      obtain ⟨a5_, ea5⟩ : ∃ z, z = updA a3_ 11 (updI (a3_ 11) (s3_ 23) (97 + z_6)) := ⟨_, rfl⟩
      rw [← es5, ← ea5]
      have fs5 : ∀ j, j ≠ 23 → s5_ j = s j := fun j hj => by rw [es5]; simp [updS, hj, fs3 j hj]
      have fa5 : ∀ j, j ≠ 11 → a5_ j = a j := fun j hj => by rw [ea5]; simp [updA, hj, fa3 j hj]
      have t5 : s5_ 23 = s3_ 23 + 1 := by rw [es5]; rfl
      show pm_E _ _ _ 44 [(0, .ref 18), (1, .int (iI x))] [] _ _ _ _
      refine pm_e_ret pm_a173_44 rfl rfl rfl rfl rfl rfl rfl rfl ?_
      exact k _ _ fs5 fa5 (by omega) (by omega)
set_option maxHeartbeats 4000000 in
set_option maxRecDepth 100000 in
theorem M_sayTerm_1 {d : Nat} {A B : List va_E} {vl : Int64} {nm : Nat → Int64} {Q : Option Value → List va_E → Nat → Nat → Prop} {s : Nat → Int} {a0 : Nat → Int → Int} (hA : A.length = 18) (h6 : 0 ≤ s 6) (h61 : s 6 ≤ 500) : ∀ (f : Nat) (i : Int) (a : Nat → Int → Int), 0 ≤ i → i ≤ s 6 + 1 → (∀ j, j ≠ 12 → j ≠ 13 → j ≠ 14 → a j = a0 j) → (∀ j, in32 (a 12 j)) → (∀ j, in32 (a 13 j)) → (∀ j, 0 ≤ j → j < i → a 14 j = 0) → (∀ (a : Nat → Int → Int), (∀ j, j ≠ 12 → j ≠ 13 → j ≠ 14 → a j = a0 j) → (∀ j, in32 (a 12 j)) → (∀ j, in32 (a 13 j)) → (∀ j, 0 ≤ j → j < s 6 + 1 → a 14 j = 0) → ∀ i', pm_E none (d + 2) pm_mm169 37 [(0, .ref 18), (1, .int (iI (i')))] [] (mh A s vl a nm B) 0 0 Q) → s 6 + 1 - i < (f : Int) → pm_E none (d + 2) pm_mm169 2 [(0, .ref 18), (1, .int (iI i))] [] (mh A s vl a nm B) 0 0 Q := by
  intro f
  induction f with
  | zero =>
    intro i a h0 h1 fA hb ho hc k hf
    exfalso; omega
  | succ f ih =>
    intro i a h0 h1 fA hb ho hc k hf
    refine pm_e_sim pm_a169_2 rfl ?_
    show pm_E _ _ _ 3 [(0, .ref 18), (1, .int (iI i))] [.int (iI i)] _ _ _ _
    refine pm_e_sim pm_a169_3 rfl ?_
    show pm_E _ _ _ 4 [(0, .ref 18), (1, .int (iI i))] [.ref 18, .int (iI i)] _ _ _ _
    refine pm_i_get pm_a169_4 rfl (mh_get (j := 0) hA rfl) rfl ?_
    show pm_E _ _ _ 7 [(0, .ref 18), (1, .int (iI i))] [.int (iI (s 6)), .int (iI i)] _ _ _ _
    refine pm_c_gt (t := 37) pm_a169_7 rfl ⟨by omega, by omega⟩ ⟨by omega, by omega⟩ (fun h_1 => ?_) (fun h_1 => ?_)
    · skip
      show pm_E _ _ _ 37 [(0, .ref 18), (1, .int (iI i))] [] _ _ _ _
      exact k a fA hb ho (fun j z y => hc j z (by omega)) _
    · skip
      show pm_E _ _ _ 10 [(0, .ref 18), (1, .int (iI i))] [] _ _ _ _
      refine pm_e_sim pm_a169_10 rfl ?_
      show pm_E _ _ _ 11 [(0, .ref 18), (1, .int (iI i))] [.ref 18] _ _ _ _
      refine pm_i_get pm_a169_11 rfl (mh_get (j := 0) hA rfl) rfl ?_
      show pm_E _ _ _ 14 [(0, .ref 18), (1, .int (iI i))] [.ref 30] _ _ _ _
      refine pm_e_sim pm_a169_14 rfl ?_
      show pm_E _ _ _ 15 [(0, .ref 18), (1, .int (iI i))] [.int (iI i), .ref 30] _ _ _ _
      refine pm_e_sim pm_a169_15 rfl ?_
      refine pm_e_top (y := iI 0) (by decide +kernel) ?_
      show pm_E _ _ _ 16 [(0, .ref 18), (1, .int (iI i))] [.int (iI 0), .int (iI i), .ref 30] _ _ _ _
      refine pm_i_bst pm_a169_16 (mh_get (j := 12) hA rfl) (by omega) (by omega) ⟨by omega, by omega⟩ (by decide +kernel) (ma_12 hA _) ?_
      show pm_E _ _ _ 17 [(0, .ref 18), (1, .int (iI i))] [] _ _ _ _
      refine pm_e_sim pm_a169_17 rfl ?_
      show pm_E _ _ _ 18 [(0, .ref 18), (1, .int (iI i))] [.ref 18] _ _ _ _
      refine pm_i_get pm_a169_18 rfl (mh_get (j := 0) hA rfl) rfl ?_
      show pm_E _ _ _ 21 [(0, .ref 18), (1, .int (iI i))] [.ref 31] _ _ _ _
      refine pm_e_sim pm_a169_21 rfl ?_
      show pm_E _ _ _ 22 [(0, .ref 18), (1, .int (iI i))] [.int (iI i), .ref 31] _ _ _ _
      refine pm_e_sim pm_a169_22 rfl ?_
      refine pm_e_top (y := iI 0) (by decide +kernel) ?_
      show pm_E _ _ _ 23 [(0, .ref 18), (1, .int (iI i))] [.int (iI 0), .int (iI i), .ref 31] _ _ _ _
      refine pm_i_bst pm_a169_23 (mh_get (j := 13) hA rfl) (by omega) (by omega) ⟨by omega, by omega⟩ (by decide +kernel) (ma_13 hA _) ?_
      show pm_E _ _ _ 24 [(0, .ref 18), (1, .int (iI i))] [] _ _ _ _
      refine pm_e_sim pm_a169_24 rfl ?_
      show pm_E _ _ _ 25 [(0, .ref 18), (1, .int (iI i))] [.ref 18] _ _ _ _
      refine pm_i_get pm_a169_25 rfl (mh_get (j := 0) hA rfl) rfl ?_
      show pm_E _ _ _ 28 [(0, .ref 18), (1, .int (iI i))] [.ref 32] _ _ _ _
      refine pm_e_sim pm_a169_28 rfl ?_
      show pm_E _ _ _ 29 [(0, .ref 18), (1, .int (iI i))] [.int (iI i), .ref 32] _ _ _ _
      refine pm_e_sim pm_a169_29 rfl ?_
      refine pm_e_top (y := iI 0) (by decide +kernel) ?_
      show pm_E _ _ _ 30 [(0, .ref 18), (1, .int (iI i))] [.int (iI 0), .int (iI i), .ref 32] _ _ _ _
      refine pm_i_ast pm_a169_30 (mh_get (j := 14) hA rfl) (by omega) (by omega) ⟨by omega, by omega⟩ (ma_14 hA _) ?_
      show pm_E _ _ _ 31 [(0, .ref 18), (1, .int (iI i))] [] _ _ _ _
      refine pm_e_inc (y := iI (i + 1)) pm_a169_31 rfl (iI_add _ _) (by decide +kernel) rfl ?_
      show pm_E _ _ _ 34 [(0, .ref 18), (1, .int (iI (i + 1)))] [] _ _ _ _
      refine pm_e_goto pm_a169_34 rfl ?_
      show pm_E _ _ _ 2 [(0, .ref 18), (1, .int (iI (i + 1)))] [] _ _ _ _
      refine ih (i + 1) _ (by omega) (by omega) (fun j h1 h2 h3 => by simp [updA, h1, h2, h3, fA j h1 h2 h3]) (updI_in hb (by decide)) (updI_in ho (by decide)) (fun j z y => ?_) k (by omega)
      by_cases hj : j = i
      · subst hj; show updI (a 14) j 0 j = 0; rw [updI_s]
      · show updI (a 14) i 0 j = 0; rw [updI_n _ _ hj]; exact hc j z (by omega)
set_option maxHeartbeats 4000000 in
set_option maxRecDepth 100000 in
theorem M_sayTerm_2 {d : Nat} {A B : List va_E} {vl : Int64} {nm : Nat → Int64} {Q : Option Value → List va_E → Nat → Nat → Prop} {s : Nat → Int} {a0 : Nat → Int → Int} {ff : Nat} {kk : Int} (hA : A.length = 18) (h6 : 0 ≤ s 6) (h61 : s 6 ≤ 500) (ht : tm (a0 4) ff kk 0 (s 6)) (hr0 : ∀ j, in32 (a0 4 j)) : ∀ (f : Nat) (p : Int) (a : Nat → Int → Int), 0 ≤ p → p ≤ s 6 → (∀ j, j ≠ 12 → j ≠ 13 → j ≠ 14 → a j = a0 j) → (∀ j, in32 (a 12 j)) → (∀ j, in32 (a 13 j)) → (∀ j, 0 ≤ j → j < s 6 + 1 → 0 ≤ a 14 j ∧ a 14 j ≤ 2 * p) → sum9 (a 14) (s 6 + 1).toNat ≤ 2 * p → (∀ (a : Nat → Int → Int), (∀ j, j ≠ 12 → j ≠ 13 → j ≠ 14 → a j = a0 j) → (∀ j, in32 (a 12 j)) → (∀ j, in32 (a 13 j)) → (∀ j, 0 ≤ j → j < s 6 + 1 → 0 ≤ a 14 j ∧ a 14 j ≤ 1000) → sum9 (a 14) (s 6 + 1).toNat ≤ 1000 → ∀ p', pm_E none (d + 2) pm_mm169 139 [(0, .ref 18), (1, .int (iI (p')))] [] (mh A s vl a nm B) 0 0 Q) → s 6 - p < (f : Int) → pm_E none (d + 2) pm_mm169 39 [(0, .ref 18), (1, .int (iI p))] [] (mh A s vl a nm B) 0 0 Q := by
  intro f
  induction f with
  | zero =>
    intro p a h0 h1 fA hb ho hc hs k hf
    exfalso; omega
  | succ f ih =>
    intro p a h0 h1 fA hb ho hc hs k hf
    have e4 : a 4 = a0 4 := fA 4 (by omega) (by omega) (by omega)
    have hr : ∀ j, in32 (a 4 j) := fun j => by rw [e4]; exact hr0 j
    refine pm_e_sim pm_a169_39 rfl ?_
    show pm_E _ _ _ 40 [(0, .ref 18), (1, .int (iI p))] [.int (iI p)] _ _ _ _
    refine pm_e_sim pm_a169_40 rfl ?_
    show pm_E _ _ _ 41 [(0, .ref 18), (1, .int (iI p))] [.ref 18, .int (iI p)] _ _ _ _
    refine pm_i_get pm_a169_41 rfl (mh_get (j := 0) hA rfl) rfl ?_
    show pm_E _ _ _ 44 [(0, .ref 18), (1, .int (iI p))] [.int (iI (s 6)), .int (iI p)] _ _ _ _
    refine pm_c_ge (t := 139) pm_a169_44 rfl ⟨by omega, by omega⟩ ⟨by omega, by omega⟩ (fun h_1 => ?_) (fun h_1 => ?_)
    · skip
      show pm_E _ _ _ 139 [(0, .ref 18), (1, .int (iI p))] [] _ _ _ _
      exact k a fA hb ho (fun j z y => by have := hc j z y; omega) (by omega) _
    · skip
      show pm_E _ _ _ 47 [(0, .ref 18), (1, .int (iI p))] [] _ _ _ _
      refine pm_e_sim pm_a169_47 rfl ?_
      show pm_E _ _ _ 48 [(0, .ref 18), (1, .int (iI p))] [.ref 18] _ _ _ _
      refine pm_i_get pm_a169_48 rfl (mh_get (j := 0) hA rfl) rfl ?_
      show pm_E _ _ _ 51 [(0, .ref 18), (1, .int (iI p))] [.ref 22] _ _ _ _
      refine pm_e_sim pm_a169_51 rfl ?_
      show pm_E _ _ _ 52 [(0, .ref 18), (1, .int (iI p))] [.int (iI p), .ref 22] _ _ _ _
      refine pm_i_ald pm_a169_52 (mh_get (j := 4) hA rfl) (by omega) (by omega) ⟨by omega, by omega⟩ ?_
      show pm_E _ _ _ 53 [(0, .ref 18), (1, .int (iI p))] [.int (iI ((a 4) (p)))] _ _ _ _
      have := hr (p)
      refine pm_i_ne (t := 133) pm_a169_53 rfl ⟨by omega, by omega⟩ (fun h_2 => ?_) (fun h_2 => ?_)
      · skip
        show pm_E _ _ _ 133 [(0, .ref 18), (1, .int (iI p))] [] _ _ _ _
        refine pm_e_inc (y := iI (p + 1)) pm_a169_133 rfl (iI_add _ _) (by decide +kernel) rfl ?_
        show pm_E _ _ _ 136 [(0, .ref 18), (1, .int (iI (p + 1)))] [] _ _ _ _
        refine pm_e_goto pm_a169_136 rfl ?_
        show pm_E _ _ _ 39 [(0, .ref 18), (1, .int (iI (p + 1)))] [] _ _ _ _
        refine ih (p + 1) _ (by omega) (by omega) (fun j h1 h2 h3 => by simp [updA, h1, h2, h3, fA j h1 h2 h3]) ?_ ?_ (fun j z y => ?_) ?_ k (by omega)
        · exact hb
        · exact ho
        · have := hc j z y; show 0 ≤ a 14 j ∧ a 14 j ≤ _; omega
        · show sum9 (a 14) _ ≤ _; omega
      · skip
        show pm_E _ _ _ 56 [(0, .ref 18), (1, .int (iI p))] [] _ _ _ _
        refine pm_e_sim pm_a169_56 rfl ?_
        show pm_E _ _ _ 57 [(0, .ref 18), (1, .int (iI p))] [.ref 18] _ _ _ _
        refine pm_e_sim pm_a169_57 rfl ?_
        show pm_E _ _ _ 58 [(0, .ref 18), (1, .int (iI p))] [.int (iI p), .ref 18] _ _ _ _
        refine pm_e_sim pm_a169_58 rfl ?_
        refine pm_e_top (y := iI 1) (by decide +kernel) ?_
        show pm_E _ _ _ 59 [(0, .ref 18), (1, .int (iI p))] [.int (iI 1), .int (iI p), .ref 18] _ _ _ _
        refine pm_e_sim pm_a169_59 rfl ?_
        refine pm_e_top (y := iI (p + 1)) (iI_add _ _) ?_
        show pm_E _ _ _ 60 [(0, .ref 18), (1, .int (iI p))] [.int (iI (p + 1)), .ref 18] _ _ _ _
        refine pm_i_callv (k := 18) (T2 := pm_mm170) pm_a169_60 rfl rfl rfl (mh_get (j := 0) hA rfl) ⟨Nat.le_of_ble_eq_true rfl, Nat.le_of_ble_eq_true rfl, rfl, by decide +kernel⟩ ?_
        show pm_E none _ _ 0 [(0, .ref 18), (1, .int (iI (p + 1)))] [] _ _ _ _
        obtain ⟨fp, kp, ep, tp, hep, _⟩ := tm_sub ht p (by omega) (by omega)
        obtain ⟨f1, q, t1, t2, _⟩ := tm_app tp (by rw [← e4]; omega)
        have l1 := tm_lt t1
        have l2 := tm_lt t2
        refine M_endT hA hr (by rw [e4]; exact t1) (by omega) (by omega) ?_
        show pm_E _ _ _ 63 [(0, .ref 18), (1, .int (iI p))] [.int (iI q)] _ _ _ _
        refine pm_e_sim pm_a169_63 rfl ?_
        show pm_E _ _ _ 64 [(0, .ref 18), (1, .int (iI p)), (2, .int (iI q))] [] _ _ _ _
        refine pm_e_sim pm_a169_64 rfl ?_
        show pm_E _ _ _ 65 [(0, .ref 18), (1, .int (iI p)), (2, .int (iI q))] [.ref 18] _ _ _ _
        refine pm_i_get pm_a169_65 rfl (mh_get (j := 0) hA rfl) rfl ?_
        show pm_E _ _ _ 68 [(0, .ref 18), (1, .int (iI p)), (2, .int (iI q))] [.ref 30] _ _ _ _
        refine pm_e_sim pm_a169_68 rfl ?_
        show pm_E _ _ _ 69 [(0, .ref 18), (1, .int (iI p)), (2, .int (iI q))] [.int (iI q), .ref 30] _ _ _ _
        refine pm_e_sim pm_a169_69 rfl ?_
        refine pm_e_top (y := iI 1) (by decide +kernel) ?_
        show pm_E _ _ _ 70 [(0, .ref 18), (1, .int (iI p)), (2, .int (iI q))] [.int (iI 1), .int (iI q), .ref 30] _ _ _ _
        refine pm_i_bst pm_a169_70 (mh_get (j := 12) hA rfl) (by omega) (by omega) ⟨by omega, by omega⟩ (by decide +kernel) (ma_12 hA _) ?_
        show pm_E _ _ _ 71 [(0, .ref 18), (1, .int (iI p)), (2, .int (iI q))] [] _ _ _ _
        refine pm_e_sim pm_a169_71 rfl ?_
        show pm_E _ _ _ 72 [(0, .ref 18), (1, .int (iI p)), (2, .int (iI q))] [.ref 18] _ _ _ _
        refine pm_i_get pm_a169_72 rfl (mh_get (j := 0) hA rfl) rfl ?_
        show pm_E _ _ _ 75 [(0, .ref 18), (1, .int (iI p)), (2, .int (iI q))] [.ref 22] _ _ _ _
        refine pm_e_sim pm_a169_75 rfl ?_
        show pm_E _ _ _ 76 [(0, .ref 18), (1, .int (iI p)), (2, .int (iI q))] [.int (iI p), .ref 22] _ _ _ _
        refine pm_e_sim pm_a169_76 rfl ?_
        refine pm_e_top (y := iI 1) (by decide +kernel) ?_
        show pm_E _ _ _ 77 [(0, .ref 18), (1, .int (iI p)), (2, .int (iI q))] [.int (iI 1), .int (iI p), .ref 22] _ _ _ _
        refine pm_e_sim pm_a169_77 rfl ?_
        refine pm_e_top (y := iI (p + 1)) (iI_add _ _) ?_
        show pm_E _ _ _ 78 [(0, .ref 18), (1, .int (iI p)), (2, .int (iI q))] [.int (iI (p + 1)), .ref 22] _ _ _ _
        refine pm_i_ald pm_a169_78 (mh_get (j := 4) hA rfl) (by omega) (by omega) ⟨by omega, by omega⟩ ?_
        show pm_E _ _ _ 79 [(0, .ref 18), (1, .int (iI p)), (2, .int (iI q))] [.int (iI ((a 4) (p + 1)))] _ _ _ _
        have := hr (p + 1)
        refine pm_e_sim pm_a169_79 rfl ?_
        refine pm_e_top (y := iI 1) (by decide +kernel) ?_
        show pm_E _ _ _ 80 [(0, .ref 18), (1, .int (iI p)), (2, .int (iI q))] [.int (iI 1), .int (iI ((a 4) (p + 1)))] _ _ _ _
        refine pm_c_ne (t := 102) pm_a169_80 rfl ⟨by omega, by omega⟩ ⟨by omega, by omega⟩ (fun h_3 => ?_) (fun h_3 => ?_)
        · skip
          show pm_E _ _ _ 102 [(0, .ref 18), (1, .int (iI p)), (2, .int (iI q))] [] _ _ _ _
          refine pm_e_sim pm_a169_102 rfl ?_
          show pm_E _ _ _ 103 [(0, .ref 18), (1, .int (iI p)), (2, .int (iI q))] [.ref 18] _ _ _ _
          refine pm_i_get pm_a169_103 rfl (mh_get (j := 0) hA rfl) rfl ?_
          show pm_E _ _ _ 106 [(0, .ref 18), (1, .int (iI p)), (2, .int (iI q))] [.ref 22] _ _ _ _
          refine pm_e_sim pm_a169_106 rfl ?_
          show pm_E _ _ _ 107 [(0, .ref 18), (1, .int (iI p)), (2, .int (iI q))] [.int (iI q), .ref 22] _ _ _ _
          refine pm_i_ald pm_a169_107 (mh_get (j := 4) hA rfl) (by omega) (by omega) ⟨by omega, by omega⟩ ?_
          show pm_E _ _ _ 108 [(0, .ref 18), (1, .int (iI p)), (2, .int (iI q))] [.int (iI ((a 4) (q)))] _ _ _ _
          have := hr (q)
          refine pm_e_sim pm_a169_108 rfl ?_
          refine pm_e_top (y := iI 2) (by decide +kernel) ?_
          show pm_E _ _ _ 109 [(0, .ref 18), (1, .int (iI p)), (2, .int (iI q))] [.int (iI 2), .int (iI ((a 4) (q)))] _ _ _ _
          refine pm_c_ge (t := 133) pm_a169_109 rfl ⟨by omega, by omega⟩ ⟨by omega, by omega⟩ (fun h_4 => ?_) (fun h_4 => ?_)
          · skip
            show pm_E _ _ _ 133 [(0, .ref 18), (1, .int (iI p)), (2, .int (iI q))] [] _ _ _ _
            refine pm_e_inc (y := iI (p + 1)) pm_a169_133 rfl (iI_add _ _) (by decide +kernel) rfl ?_
            show pm_E _ _ _ 136 [(0, .ref 18), (1, .int (iI (p + 1))), (2, .int (iI q))] [] _ _ _ _
            refine pm_e_goto pm_a169_136 rfl ?_
            show pm_E _ _ _ 39 [(0, .ref 18), (1, .int (iI (p + 1))), (2, .int (iI q))] [] _ _ _ _
            show pm_E _ _ _ 39 ([(0, .ref 18), (1, .int (iI (p + 1)))] ++ [(2, .int (iI q))]) [] _ _ _ _
            refine pm_e_more [(2, .int (iI q))] (show ([0, 1, 2] : List Nat).Nodup from by decide) ?_
            refine ih (p + 1) _ (by omega) (by omega) (fun j h1 h2 h3 => by simp [updA, h1, h2, h3, fA j h1 h2 h3]) ?_ ?_ (fun j z y => ?_) ?_ k (by omega)
            · exact updI_in hb (by decide)
            · exact ho
            · have := hc j z y; show 0 ≤ a 14 j ∧ a 14 j ≤ _; omega
            · show sum9 (a 14) _ ≤ _; omega
          · skip
            show pm_E _ _ _ 112 [(0, .ref 18), (1, .int (iI p)), (2, .int (iI q))] [] _ _ _ _
            refine pm_e_sim pm_a169_112 rfl ?_
            show pm_E _ _ _ 113 [(0, .ref 18), (1, .int (iI p)), (2, .int (iI q))] [.ref 18] _ _ _ _
            refine pm_i_get pm_a169_113 rfl (mh_get (j := 0) hA rfl) rfl ?_
            show pm_E _ _ _ 116 [(0, .ref 18), (1, .int (iI p)), (2, .int (iI q))] [.ref 31] _ _ _ _
            refine pm_e_sim pm_a169_116 rfl ?_
            show pm_E _ _ _ 117 [(0, .ref 18), (1, .int (iI p)), (2, .int (iI q))] [.int (iI q), .ref 31] _ _ _ _
            refine pm_e_sim pm_a169_117 rfl ?_
            refine pm_e_top (y := iI 1) (by decide +kernel) ?_
            show pm_E _ _ _ 118 [(0, .ref 18), (1, .int (iI p)), (2, .int (iI q))] [.int (iI 1), .int (iI q), .ref 31] _ _ _ _
            refine pm_i_bst pm_a169_118 (mh_get (j := 13) hA rfl) (by omega) (by omega) ⟨by omega, by omega⟩ (by decide +kernel) (ma_13 hA _) ?_
            show pm_E _ _ _ 119 [(0, .ref 18), (1, .int (iI p)), (2, .int (iI q))] [] _ _ _ _
            refine pm_e_sim pm_a169_119 rfl ?_
            show pm_E _ _ _ 120 [(0, .ref 18), (1, .int (iI p)), (2, .int (iI q))] [.ref 18] _ _ _ _
            refine pm_i_get pm_a169_120 rfl (mh_get (j := 0) hA rfl) rfl ?_
            show pm_E _ _ _ 123 [(0, .ref 18), (1, .int (iI p)), (2, .int (iI q))] [.ref 32] _ _ _ _
            refine pm_e_sim pm_a169_123 rfl ?_
            show pm_E _ _ _ 124 [(0, .ref 18), (1, .int (iI p)), (2, .int (iI q))] [.ref 18, .ref 32] _ _ _ _
            refine pm_e_sim pm_a169_124 rfl ?_
            show pm_E _ _ _ 125 [(0, .ref 18), (1, .int (iI p)), (2, .int (iI q))] [.int (iI q), .ref 18, .ref 32] _ _ _ _
            refine pm_i_callv (k := 18) (T2 := pm_mm170) pm_a169_125 rfl rfl rfl (mh_get (j := 0) hA rfl) ⟨Nat.le_of_ble_eq_true rfl, Nat.le_of_ble_eq_true rfl, rfl, by decide +kernel⟩ ?_
            show pm_E none _ _ 0 [(0, .ref 18), (1, .int (iI q))] [] _ _ _ _
            refine M_endT hA (show ∀ j, in32 (a 4 j) from hr) (show tm (a 4) _ _ q ep by rw [e4]; exact t2) (by omega) (by omega) ?_
            show pm_E _ _ _ 128 [(0, .ref 18), (1, .int (iI p)), (2, .int (iI q))] [.int (iI ep), .ref 32] _ _ _ _
            refine pm_e_sim pm_a169_128 rfl ?_
            show pm_E _ _ _ 129 [(0, .ref 18), (1, .int (iI p)), (2, .int (iI q))] [.int (iI ep), .ref 32, .int (iI ep), .ref 32] _ _ _ _
            refine pm_i_ald pm_a169_129 (mh_get (j := 14) hA rfl) (by omega) (by omega) ⟨by omega, by omega⟩ ?_
            show pm_E _ _ _ 130 [(0, .ref 18), (1, .int (iI p)), (2, .int (iI q))] [.int (iI ((a 14) (ep))), .int (iI ep), .ref 32] _ _ _ _
            refine pm_e_sim pm_a169_130 rfl ?_
            refine pm_e_top (y := iI 1) (by decide +kernel) ?_
            show pm_E _ _ _ 131 [(0, .ref 18), (1, .int (iI p)), (2, .int (iI q))] [.int (iI 1), .int (iI ((a 14) (ep))), .int (iI ep), .ref 32] _ _ _ _
            refine pm_e_sim pm_a169_131 rfl ?_
            refine pm_e_top (y := iI ((a 14) (ep) + 1)) (iI_add _ _) ?_
            show pm_E _ _ _ 132 [(0, .ref 18), (1, .int (iI p)), (2, .int (iI q))] [.int (iI ((a 14) (ep) + 1)), .int (iI ep), .ref 32] _ _ _ _
            refine pm_i_ast pm_a169_132 (mh_get (j := 14) hA rfl) (by omega) (by omega) ⟨by omega, by omega⟩ (ma_14 hA _) ?_
            show pm_E _ _ _ 133 [(0, .ref 18), (1, .int (iI p)), (2, .int (iI q))] [] _ _ _ _
            refine pm_e_inc (y := iI (p + 1)) pm_a169_133 rfl (iI_add _ _) (by decide +kernel) rfl ?_
            show pm_E _ _ _ 136 [(0, .ref 18), (1, .int (iI (p + 1))), (2, .int (iI q))] [] _ _ _ _
            refine pm_e_goto pm_a169_136 rfl ?_
            show pm_E _ _ _ 39 [(0, .ref 18), (1, .int (iI (p + 1))), (2, .int (iI q))] [] _ _ _ _
            show pm_E _ _ _ 39 ([(0, .ref 18), (1, .int (iI (p + 1)))] ++ [(2, .int (iI q))]) [] _ _ _ _
            refine pm_e_more [(2, .int (iI q))] (show ([0, 1, 2] : List Nat).Nodup from by decide) ?_
            refine ih (p + 1) _ (by omega) (by omega) (fun j h1 h2 h3 => by simp [updA, h1, h2, h3, fA j h1 h2 h3]) ?_ ?_ (fun j z y => ?_) ?_ k (by omega)
            · exact updI_in hb (by decide)
            · exact updI_in ho (by decide)
            · show 0 ≤ updI (a 14) ep (a 14 ep + 1) j ∧ updI (a 14) ep (a 14 ep + 1) j ≤ _
              have := hc j z y; unfold updI; split
              · rename_i hj; subst hj; omega
              · omega
            · show sum9 (updI (a 14) ep (a 14 ep + 1)) _ ≤ _; rw [sum9_up (by omega) (by omega)]; omega
        · skip
          show pm_E _ _ _ 83 [(0, .ref 18), (1, .int (iI p)), (2, .int (iI q))] [] _ _ _ _
          refine pm_e_sim pm_a169_83 rfl ?_
          show pm_E _ _ _ 84 [(0, .ref 18), (1, .int (iI p)), (2, .int (iI q))] [.ref 18] _ _ _ _
          refine pm_i_get pm_a169_84 rfl (mh_get (j := 0) hA rfl) rfl ?_
          show pm_E _ _ _ 87 [(0, .ref 18), (1, .int (iI p)), (2, .int (iI q))] [.ref 31] _ _ _ _
          refine pm_e_sim pm_a169_87 rfl ?_
          show pm_E _ _ _ 88 [(0, .ref 18), (1, .int (iI p)), (2, .int (iI q))] [.int (iI p), .ref 31] _ _ _ _
          refine pm_e_sim pm_a169_88 rfl ?_
          refine pm_e_top (y := iI 1) (by decide +kernel) ?_
          show pm_E _ _ _ 89 [(0, .ref 18), (1, .int (iI p)), (2, .int (iI q))] [.int (iI 1), .int (iI p), .ref 31] _ _ _ _
          refine pm_e_sim pm_a169_89 rfl ?_
          refine pm_e_top (y := iI (p + 1)) (iI_add _ _) ?_
          show pm_E _ _ _ 90 [(0, .ref 18), (1, .int (iI p)), (2, .int (iI q))] [.int (iI (p + 1)), .ref 31] _ _ _ _
          refine pm_e_sim pm_a169_90 rfl ?_
          refine pm_e_top (y := iI 1) (by decide +kernel) ?_
          show pm_E _ _ _ 91 [(0, .ref 18), (1, .int (iI p)), (2, .int (iI q))] [.int (iI 1), .int (iI (p + 1)), .ref 31] _ _ _ _
          refine pm_i_bst pm_a169_91 (mh_get (j := 13) hA rfl) (by omega) (by omega) ⟨by omega, by omega⟩ (by decide +kernel) (ma_13 hA _) ?_
          show pm_E _ _ _ 92 [(0, .ref 18), (1, .int (iI p)), (2, .int (iI q))] [] _ _ _ _
          refine pm_e_sim pm_a169_92 rfl ?_
          show pm_E _ _ _ 93 [(0, .ref 18), (1, .int (iI p)), (2, .int (iI q))] [.ref 18] _ _ _ _
          refine pm_i_get pm_a169_93 rfl (mh_get (j := 0) hA rfl) rfl ?_
          show pm_E _ _ _ 96 [(0, .ref 18), (1, .int (iI p)), (2, .int (iI q))] [.ref 32] _ _ _ _
          refine pm_e_sim pm_a169_96 rfl ?_
          show pm_E _ _ _ 97 [(0, .ref 18), (1, .int (iI p)), (2, .int (iI q))] [.int (iI q), .ref 32] _ _ _ _
          refine pm_e_sim pm_a169_97 rfl ?_
          show pm_E _ _ _ 98 [(0, .ref 18), (1, .int (iI p)), (2, .int (iI q))] [.int (iI q), .ref 32, .int (iI q), .ref 32] _ _ _ _
          refine pm_i_ald pm_a169_98 (mh_get (j := 14) hA rfl) (by omega) (by omega) ⟨by omega, by omega⟩ ?_
          show pm_E _ _ _ 99 [(0, .ref 18), (1, .int (iI p)), (2, .int (iI q))] [.int (iI ((a 14) (q))), .int (iI q), .ref 32] _ _ _ _
          refine pm_e_sim pm_a169_99 rfl ?_
          refine pm_e_top (y := iI 1) (by decide +kernel) ?_
          show pm_E _ _ _ 100 [(0, .ref 18), (1, .int (iI p)), (2, .int (iI q))] [.int (iI 1), .int (iI ((a 14) (q))), .int (iI q), .ref 32] _ _ _ _
          refine pm_e_sim pm_a169_100 rfl ?_
          refine pm_e_top (y := iI ((a 14) (q) + 1)) (iI_add _ _) ?_
          show pm_E _ _ _ 101 [(0, .ref 18), (1, .int (iI p)), (2, .int (iI q))] [.int (iI ((a 14) (q) + 1)), .int (iI q), .ref 32] _ _ _ _
          refine pm_i_ast pm_a169_101 (mh_get (j := 14) hA rfl) (by omega) (by omega) ⟨by omega, by omega⟩ (ma_14 hA _) ?_
          show pm_E _ _ _ 102 [(0, .ref 18), (1, .int (iI p)), (2, .int (iI q))] [] _ _ _ _
          refine pm_e_sim pm_a169_102 rfl ?_
          show pm_E _ _ _ 103 [(0, .ref 18), (1, .int (iI p)), (2, .int (iI q))] [.ref 18] _ _ _ _
          refine pm_i_get pm_a169_103 rfl (mh_get (j := 0) hA rfl) rfl ?_
          show pm_E _ _ _ 106 [(0, .ref 18), (1, .int (iI p)), (2, .int (iI q))] [.ref 22] _ _ _ _
          refine pm_e_sim pm_a169_106 rfl ?_
          show pm_E _ _ _ 107 [(0, .ref 18), (1, .int (iI p)), (2, .int (iI q))] [.int (iI q), .ref 22] _ _ _ _
          refine pm_i_ald pm_a169_107 (mh_get (j := 4) hA rfl) (by omega) (by omega) ⟨by omega, by omega⟩ ?_
          show pm_E _ _ _ 108 [(0, .ref 18), (1, .int (iI p)), (2, .int (iI q))] [.int (iI ((a 4) (q)))] _ _ _ _
          have := hr (q)
          refine pm_e_sim pm_a169_108 rfl ?_
          refine pm_e_top (y := iI 2) (by decide +kernel) ?_
          show pm_E _ _ _ 109 [(0, .ref 18), (1, .int (iI p)), (2, .int (iI q))] [.int (iI 2), .int (iI ((a 4) (q)))] _ _ _ _
          refine pm_c_ge (t := 133) pm_a169_109 rfl ⟨by omega, by omega⟩ ⟨by omega, by omega⟩ (fun h_5 => ?_) (fun h_5 => ?_)
          · skip
            show pm_E _ _ _ 133 [(0, .ref 18), (1, .int (iI p)), (2, .int (iI q))] [] _ _ _ _
            refine pm_e_inc (y := iI (p + 1)) pm_a169_133 rfl (iI_add _ _) (by decide +kernel) rfl ?_
            show pm_E _ _ _ 136 [(0, .ref 18), (1, .int (iI (p + 1))), (2, .int (iI q))] [] _ _ _ _
            refine pm_e_goto pm_a169_136 rfl ?_
            show pm_E _ _ _ 39 [(0, .ref 18), (1, .int (iI (p + 1))), (2, .int (iI q))] [] _ _ _ _
            show pm_E _ _ _ 39 ([(0, .ref 18), (1, .int (iI (p + 1)))] ++ [(2, .int (iI q))]) [] _ _ _ _
            refine pm_e_more [(2, .int (iI q))] (show ([0, 1, 2] : List Nat).Nodup from by decide) ?_
            refine ih (p + 1) _ (by omega) (by omega) (fun j h1 h2 h3 => by simp [updA, h1, h2, h3, fA j h1 h2 h3]) ?_ ?_ (fun j z y => ?_) ?_ k (by omega)
            · exact updI_in hb (by decide)
            · exact updI_in ho (by decide)
            · show 0 ≤ updI (a 14) q (a 14 q + 1) j ∧ updI (a 14) q (a 14 q + 1) j ≤ _
              have := hc j z y; unfold updI; split
              · rename_i hj; subst hj; omega
              · omega
            · show sum9 (updI (a 14) q (a 14 q + 1)) _ ≤ _; rw [sum9_up (by omega) (by omega)]; omega
          · skip
            show pm_E _ _ _ 112 [(0, .ref 18), (1, .int (iI p)), (2, .int (iI q))] [] _ _ _ _
            refine pm_e_sim pm_a169_112 rfl ?_
            show pm_E _ _ _ 113 [(0, .ref 18), (1, .int (iI p)), (2, .int (iI q))] [.ref 18] _ _ _ _
            refine pm_i_get pm_a169_113 rfl (mh_get (j := 0) hA rfl) rfl ?_
            show pm_E _ _ _ 116 [(0, .ref 18), (1, .int (iI p)), (2, .int (iI q))] [.ref 31] _ _ _ _
            refine pm_e_sim pm_a169_116 rfl ?_
            show pm_E _ _ _ 117 [(0, .ref 18), (1, .int (iI p)), (2, .int (iI q))] [.int (iI q), .ref 31] _ _ _ _
            refine pm_e_sim pm_a169_117 rfl ?_
            refine pm_e_top (y := iI 1) (by decide +kernel) ?_
            show pm_E _ _ _ 118 [(0, .ref 18), (1, .int (iI p)), (2, .int (iI q))] [.int (iI 1), .int (iI q), .ref 31] _ _ _ _
            refine pm_i_bst pm_a169_118 (mh_get (j := 13) hA rfl) (by omega) (by omega) ⟨by omega, by omega⟩ (by decide +kernel) (ma_13 hA _) ?_
            show pm_E _ _ _ 119 [(0, .ref 18), (1, .int (iI p)), (2, .int (iI q))] [] _ _ _ _
            refine pm_e_sim pm_a169_119 rfl ?_
            show pm_E _ _ _ 120 [(0, .ref 18), (1, .int (iI p)), (2, .int (iI q))] [.ref 18] _ _ _ _
            refine pm_i_get pm_a169_120 rfl (mh_get (j := 0) hA rfl) rfl ?_
            show pm_E _ _ _ 123 [(0, .ref 18), (1, .int (iI p)), (2, .int (iI q))] [.ref 32] _ _ _ _
            refine pm_e_sim pm_a169_123 rfl ?_
            show pm_E _ _ _ 124 [(0, .ref 18), (1, .int (iI p)), (2, .int (iI q))] [.ref 18, .ref 32] _ _ _ _
            refine pm_e_sim pm_a169_124 rfl ?_
            show pm_E _ _ _ 125 [(0, .ref 18), (1, .int (iI p)), (2, .int (iI q))] [.int (iI q), .ref 18, .ref 32] _ _ _ _
            refine pm_i_callv (k := 18) (T2 := pm_mm170) pm_a169_125 rfl rfl rfl (mh_get (j := 0) hA rfl) ⟨Nat.le_of_ble_eq_true rfl, Nat.le_of_ble_eq_true rfl, rfl, by decide +kernel⟩ ?_
            show pm_E none _ _ 0 [(0, .ref 18), (1, .int (iI q))] [] _ _ _ _
            refine M_endT hA (show ∀ j, in32 (a 4 j) from hr) (show tm (a 4) _ _ q ep by rw [e4]; exact t2) (by omega) (by omega) ?_
            show pm_E _ _ _ 128 [(0, .ref 18), (1, .int (iI p)), (2, .int (iI q))] [.int (iI ep), .ref 32] _ _ _ _
            refine pm_e_sim pm_a169_128 rfl ?_
            show pm_E _ _ _ 129 [(0, .ref 18), (1, .int (iI p)), (2, .int (iI q))] [.int (iI ep), .ref 32, .int (iI ep), .ref 32] _ _ _ _
            refine pm_i_ald pm_a169_129 (mh_get (j := 14) hA rfl) (by omega) (by omega) ⟨by omega, by omega⟩ ?_
            show pm_E _ _ _ 130 [(0, .ref 18), (1, .int (iI p)), (2, .int (iI q))] [.int (iI ((updI (a 14) (q) ((a 14) (q) + 1)) (ep))), .int (iI ep), .ref 32] _ _ _ _
            refine pm_e_sim pm_a169_130 rfl ?_
            refine pm_e_top (y := iI 1) (by decide +kernel) ?_
            show pm_E _ _ _ 131 [(0, .ref 18), (1, .int (iI p)), (2, .int (iI q))] [.int (iI 1), .int (iI ((updI (a 14) (q) ((a 14) (q) + 1)) (ep))), .int (iI ep), .ref 32] _ _ _ _
            refine pm_e_sim pm_a169_131 rfl ?_
            refine pm_e_top (y := iI ((updI (a 14) (q) ((a 14) (q) + 1)) (ep) + 1)) (iI_add _ _) ?_
            show pm_E _ _ _ 132 [(0, .ref 18), (1, .int (iI p)), (2, .int (iI q))] [.int (iI ((updI (a 14) (q) ((a 14) (q) + 1)) (ep) + 1)), .int (iI ep), .ref 32] _ _ _ _
            refine pm_i_ast pm_a169_132 (mh_get (j := 14) hA rfl) (by omega) (by omega) ⟨by omega, by omega⟩ (ma_14 hA _) ?_
            show pm_E _ _ _ 133 [(0, .ref 18), (1, .int (iI p)), (2, .int (iI q))] [] _ _ _ _
            refine pm_e_inc (y := iI (p + 1)) pm_a169_133 rfl (iI_add _ _) (by decide +kernel) rfl ?_
            show pm_E _ _ _ 136 [(0, .ref 18), (1, .int (iI (p + 1))), (2, .int (iI q))] [] _ _ _ _
            refine pm_e_goto pm_a169_136 rfl ?_
            show pm_E _ _ _ 39 [(0, .ref 18), (1, .int (iI (p + 1))), (2, .int (iI q))] [] _ _ _ _
            show pm_E _ _ _ 39 ([(0, .ref 18), (1, .int (iI (p + 1)))] ++ [(2, .int (iI q))]) [] _ _ _ _
            refine pm_e_more [(2, .int (iI q))] (show ([0, 1, 2] : List Nat).Nodup from by decide) ?_
            refine ih (p + 1) _ (by omega) (by omega) (fun j h1 h2 h3 => by simp [updA, h1, h2, h3, fA j h1 h2 h3]) ?_ ?_ (fun j z y => ?_) ?_ k (by omega)
            · exact updI_in hb (by decide)
            · exact updI_in (updI_in ho (by decide)) (by decide)
            · show 0 ≤ updI (updI (a 14) q (a 14 q + 1)) ep ((updI (a 14) q (a 14 q + 1)) ep + 1) j ∧ updI (updI (a 14) q (a 14 q + 1)) ep ((updI (a 14) q (a 14 q + 1)) ep + 1) j ≤ _
              have h1 := hc j z y; have h2 := hc ep (by omega) (by omega); have h3 := hc q (by omega) (by omega); unfold updI; repeat' split
              all_goals first | omega | (rename_i hj; subst hj; omega) | (rename_i hj _; subst hj; omega) | (rename_i hj hk; subst hj; subst hk; omega)
            · show sum9 (updI (updI (a 14) q (a 14 q + 1)) ep ((updI (a 14) q (a 14 q + 1)) ep + 1)) _ ≤ _; rw [sum9_up (by omega) (by omega), sum9_up (by omega) (by omega)]; omega
set_option maxHeartbeats 4000000 in
set_option maxRecDepth 100000 in
theorem M_sayTerm_k {d : Nat} {A B : List va_E} {vl : Int64} {nm : Nat → Int64} {Q : Option Value → List va_E → Nat → Nat → Prop} {s0 : Nat → Int} {a0 : Nat → Int → Int} {i b : Int} (hA : A.length = 18) (h6 : 0 ≤ s0 6) (h61 : s0 6 ≤ 500) (hr : ∀ j, in32 (a0 4 j)) (hb : ∀ j, in32 (a0 12 j)) (ho : ∀ j, in32 (a0 13 j)) (hd : ∀ j, 0 ≤ j → j < s0 6 → 0 ≤ a0 5 j ∧ a0 5 j ≤ 1000) (hc : ∀ j, 0 ≤ j → j < s0 6 + 1 → 0 ≤ a0 14 j ∧ a0 14 j ≤ 1000) (hs : sum9 (a0 14) (s0 6 + 1).toNat ≤ 1000) (hi0 : 0 ≤ i) (hi1 : i ≤ s0 6) (hb0 : 0 ≤ b) (hb1 : b + a0 14 i ≤ 5000) : ∀ (f : Nat) (k : Int) (s : Nat → Int) (a : Nat → Int → Int), 0 ≤ k → k ≤ a0 14 i → (∀ j, j ≠ 23 → s j = s0 j) → (∀ j, j ≠ 11 → a j = a0 j) → 0 ≤ s 23 → s 23 ≤ b + k → (∀ (s : Nat → Int) (a : Nat → Int → Int), (∀ j, j ≠ 23 → s j = s0 j) → (∀ j, j ≠ 11 → a j = a0 j) → 0 ≤ s 23 → s 23 ≤ b + a0 14 i → ∀ k', pm_E none (d + 2) pm_mm169 183 [(0, .ref 18), (1, .int (iI i)), (2, .int (iI (k')))] [] (mh A s vl a nm B) 0 0 Q) → a0 14 i - k < (f : Int) → pm_E none (d + 2) pm_mm169 161 [(0, .ref 18), (1, .int (iI i)), (2, .int (iI k))] [] (mh A s vl a nm B) 0 0 Q := by
  intro f
  induction f with
  | zero =>
    intro k s a h0 h1 fS fA h2 h3 kk hf
    exfalso; omega
  | succ f ih =>
    intro k s a h0 h1 fS fA h2 h3 kk hf
    have e14 : a 14 = a0 14 := fA 14 (by omega)
    have hci := hc i (by omega) (by omega)
    have e14i : a 14 i = a0 14 i := by rw [e14]
    refine pm_e_sim pm_a169_161 rfl ?_
    show pm_E _ _ _ 162 [(0, .ref 18), (1, .int (iI i)), (2, .int (iI k))] [.int (iI k)] _ _ _ _
    refine pm_e_sim pm_a169_162 rfl ?_
    show pm_E _ _ _ 163 [(0, .ref 18), (1, .int (iI i)), (2, .int (iI k))] [.ref 18, .int (iI k)] _ _ _ _
    refine pm_i_get pm_a169_163 rfl (mh_get (j := 0) hA rfl) rfl ?_
    show pm_E _ _ _ 166 [(0, .ref 18), (1, .int (iI i)), (2, .int (iI k))] [.ref 32, .int (iI k)] _ _ _ _
    refine pm_e_sim pm_a169_166 rfl ?_
    show pm_E _ _ _ 167 [(0, .ref 18), (1, .int (iI i)), (2, .int (iI k))] [.int (iI i), .ref 32, .int (iI k)] _ _ _ _
    refine pm_i_ald pm_a169_167 (mh_get (j := 14) hA rfl) (by omega) (by omega) ⟨by omega, by omega⟩ ?_
    show pm_E _ _ _ 168 [(0, .ref 18), (1, .int (iI i)), (2, .int (iI k))] [.int (iI ((a 14) (i))), .int (iI k)] _ _ _ _
    refine pm_c_ge (t := 183) pm_a169_168 rfl ⟨by omega, by omega⟩ ⟨by omega, by omega⟩ (fun h_1 => ?_) (fun h_1 => ?_)
    · skip
      show pm_E _ _ _ 183 [(0, .ref 18), (1, .int (iI i)), (2, .int (iI k))] [] _ _ _ _
      exact kk s a fS fA h2 (by omega) _
    · skip
      show pm_E _ _ _ 171 [(0, .ref 18), (1, .int (iI i)), (2, .int (iI k))] [] _ _ _ _
      refine pm_e_sim pm_a169_171 rfl ?_
      show pm_E _ _ _ 172 [(0, .ref 18), (1, .int (iI i)), (2, .int (iI k))] [.ref 18] _ _ _ _
      refine pm_e_sim pm_a169_172 rfl ?_
      refine pm_e_top (y := iI 41) (by decide +kernel) ?_
      show pm_E _ _ _ 174 [(0, .ref 18), (1, .int (iI i)), (2, .int (iI k))] [.int (iI 41), .ref 18] _ _ _ _
      refine pm_i_callv (k := 18) (T2 := pm_mm172) pm_a169_174 rfl rfl rfl (mh_get (j := 0) hA rfl) ⟨Nat.le_of_ble_eq_true rfl, Nat.le_of_ble_eq_true rfl, rfl, by decide +kernel⟩ ?_
      show pm_E none _ _ 0 [(0, .ref 18), (1, .int (iI 41))] [] _ _ _ _
      refine M_say hA (by omega) (by omega) ?_
      obtain ⟨s6_, es6⟩ : ∃ z, z = updS s 23 (s 23 + 1) := ⟨_, rfl⟩
      obtain ⟨a6_, ea6⟩ : ∃ z, z = updA a 11 (updI (a 11) (s 23) (41)) := ⟨_, rfl⟩
      rw [← es6, ← ea6]
      have fs6 : ∀ j, j ≠ 23 → s6_ j = s0 j := fun j hj => by rw [es6]; simp [updS, hj, fS j hj]
      have fa6 : ∀ j, j ≠ 11 → a6_ j = a0 j := fun j hj => by rw [ea6]; simp [updA, hj, fA j hj]
      have t6 : s6_ 23 = s 23 + 1 := by rw [es6]; rfl
      have x6_6 := fs6 6 (by omega)
      have x4_6 : a6_ 4 = a0 4 := fa6 4 (by omega)
      have x5_6 : a6_ 5 = a0 5 := fa6 5 (by omega)
      have x12_6 : a6_ 12 = a0 12 := fa6 12 (by omega)
      have x13_6 : a6_ 13 = a0 13 := fa6 13 (by omega)
      show pm_E _ _ _ 177 [(0, .ref 18), (1, .int (iI i)), (2, .int (iI k))] [] _ _ _ _
      refine pm_e_inc (y := iI (k + 1)) pm_a169_177 rfl (iI_add _ _) (by decide +kernel) rfl ?_
      show pm_E _ _ _ 180 [(0, .ref 18), (1, .int (iI i)), (2, .int (iI (k + 1)))] [] _ _ _ _
      refine pm_e_goto pm_a169_180 rfl ?_
      show pm_E _ _ _ 161 [(0, .ref 18), (1, .int (iI i)), (2, .int (iI (k + 1)))] [] _ _ _ _
      exact ih (k + 1) s6_ a6_ (by omega) (by omega) fs6 fa6 (by omega) (by omega) kk (by omega)
set_option maxHeartbeats 4000000 in
set_option maxRecDepth 100000 in
theorem M_sayTerm_3 {d : Nat} {A B : List va_E} {vl : Int64} {nm : Nat → Int64} {Q : Option Value → List va_E → Nat → Nat → Prop} {s0 : Nat → Int} {a0 : Nat → Int → Int} (hA : A.length = 18) (h6 : 0 ≤ s0 6) (h61 : s0 6 ≤ 500) (hr : ∀ j, in32 (a0 4 j)) (hb : ∀ j, in32 (a0 12 j)) (ho : ∀ j, in32 (a0 13 j)) (hd : ∀ j, 0 ≤ j → j < s0 6 → 0 ≤ a0 5 j ∧ a0 5 j ≤ 1000) (hc : ∀ j, 0 ≤ j → j < s0 6 + 1 → 0 ≤ a0 14 j ∧ a0 14 j ≤ 1000) (hs : sum9 (a0 14) (s0 6 + 1).toNat ≤ 1000) : ∀ (f : Nat) (i : Int) (s : Nat → Int) (a : Nat → Int → Int), 0 ≤ i → i ≤ s0 6 + 1 → (∀ j, j ≠ 23 → s j = s0 j) → (∀ j, j ≠ 11 → a j = a0 j) → 0 ≤ s 23 → s 23 ≤ 6 * i + sum9 (a0 14) i.toNat → (∀ (s : Nat → Int) (a : Nat → Int → Int), (∀ j, j ≠ 23 → s j = s0 j) → (∀ j, j ≠ 11 → a j = a0 j) → 0 ≤ s 23 → s 23 ≤ 5000 → Q none (mh A s vl a nm B) 0 0) → s0 6 + 1 - i < (f : Int) → pm_E none (d + 2) pm_mm169 151 [(0, .ref 18), (1, .int (iI i))] [] (mh A s vl a nm B) 0 0 Q := by
  intro f
  induction f with
  | zero =>
    intro i s a h0 h1 fS fA h2 h3 kk hf
    exfalso; omega
  | succ f ih =>
    intro i s a h0 h1 fS fA h2 h3 kk hf
    have e6 := fS 6 (by omega)
    have hss : sum9 (a0 14) i.toNat ≤ sum9 (a0 14) (s0 6 + 1).toNat := sum9_le (by omega) (fun j z y => (hc j z (by omega)).1)
    have hs0 : 0 ≤ sum9 (a0 14) i.toNat := sum9_le (m := 0) (by omega) (fun j z y => (hc j z (by omega)).1)
    have hst : i < s0 6 + 1 → sum9 (a0 14) (i + 1).toNat = sum9 (a0 14) i.toNat + a0 14 i := fun _ => by rw [show (i + 1).toNat = i.toNat + 1 by omega]; show _ + a0 14 ((i.toNat : Nat) : Int) = _; rw [show ((i.toNat : Nat) : Int) = i by omega]
    have hss2 : i < s0 6 + 1 → sum9 (a0 14) (i + 1).toNat ≤ 1000 := fun _ => Int.le_trans (sum9_le (by omega) (fun j z y => (hc j z (by omega)).1)) hs
    have hci : i < s0 6 + 1 → 0 ≤ a0 14 i ∧ a0 14 i ≤ 1000 := fun z => hc i (by omega) z
    refine pm_e_sim pm_a169_151 rfl ?_
    show pm_E _ _ _ 152 [(0, .ref 18), (1, .int (iI i))] [.int (iI i)] _ _ _ _
    refine pm_e_sim pm_a169_152 rfl ?_
    show pm_E _ _ _ 153 [(0, .ref 18), (1, .int (iI i))] [.ref 18, .int (iI i)] _ _ _ _
    refine pm_i_get pm_a169_153 rfl (mh_get (j := 0) hA rfl) rfl ?_
    show pm_E _ _ _ 156 [(0, .ref 18), (1, .int (iI i))] [.int (iI (s 6)), .int (iI i)] _ _ _ _
    refine pm_c_gt (t := 344) pm_a169_156 rfl ⟨by omega, by omega⟩ ⟨by omega, by omega⟩ (fun h_1 => ?_) (fun h_1 => ?_)
    · skip
      show pm_E _ _ _ 344 [(0, .ref 18), (1, .int (iI i))] [] _ _ _ _
      refine pm_e_ret pm_a169_344 rfl rfl rfl rfl rfl rfl rfl rfl ?_
      exact kk s a fS fA h2 (by rw [show i = s0 6 + 1 by omega] at h3; omega)
    · skip
      show pm_E _ _ _ 159 [(0, .ref 18), (1, .int (iI i))] [] _ _ _ _
      refine pm_e_sim pm_a169_159 rfl ?_
      refine pm_e_top (y := iI 0) (by decide +kernel) ?_
      show pm_E _ _ _ 160 [(0, .ref 18), (1, .int (iI i))] [.int (iI 0)] _ _ _ _
      refine pm_e_sim pm_a169_160 rfl ?_
      show pm_E _ _ _ 161 [(0, .ref 18), (1, .int (iI i)), (2, .int (iI 0))] [] _ _ _ _
      refine M_sayTerm_k (b := 6 * i + sum9 (a0 14) i.toNat) hA h6 h61 hr hb ho hd hc hs (by omega) (by omega) (by omega) (by omega) (a0 14 i + 1).toNat 0 s a (by omega) (by omega) fS fA (by omega) (by omega) ?_ (by omega)
      have hi9 : i ≤ s0 6 := by omega
      clear h_1 e6 fS fA h2 h3 s a
      intro s a fS fA h2 h3 k'
      have e6 := fS 6 (by omega)
      have e4 : a 4 = a0 4 := fA 4 (by omega)
      have e5 : a 5 = a0 5 := fA 5 (by omega)
      have e12 : a 12 = a0 12 := fA 12 (by omega)
      have e13 : a 13 = a0 13 := fA 13 (by omega)
      have hbi := hb i
      have hoi := ho i
      have hri := hr i
      have e4i : a 4 i = a0 4 i := by rw [e4]
      have e5i : a 5 i = a0 5 i := by rw [e5]
      have e12i : a 12 i = a0 12 i := by rw [e12]
      have e13i : a 13 i = a0 13 i := by rw [e13]
      have hdi : i < s0 6 → 0 ≤ a0 5 i ∧ a0 5 i ≤ 1000 := hd i (by omega)
      refine pm_e_sim pm_a169_183 rfl ?_
      show pm_E _ _ _ 184 [(0, .ref 18), (1, .int (iI i)), (2, .int (iI (k')))] [.ref 18] _ _ _ _
      refine pm_i_get pm_a169_184 rfl (mh_get (j := 0) hA rfl) rfl ?_
      show pm_E _ _ _ 187 [(0, .ref 18), (1, .int (iI i)), (2, .int (iI (k')))] [.ref 30] _ _ _ _
      refine pm_e_sim pm_a169_187 rfl ?_
      show pm_E _ _ _ 188 [(0, .ref 18), (1, .int (iI i)), (2, .int (iI (k')))] [.int (iI i), .ref 30] _ _ _ _
      refine pm_i_bld pm_a169_188 (mh_get (j := 12) hA rfl) (by omega) (by omega) ⟨by omega, by omega⟩ ?_
      show pm_E _ _ _ 189 [(0, .ref 18), (1, .int (iI i)), (2, .int (iI (k')))] [.int (iI ((a 12) (i)))] _ _ _ _
      refine pm_i_eq (t := 198) pm_a169_189 rfl ⟨by omega, by omega⟩ (fun h_301 => ?_) (fun h_301 => ?_)
      · skip
        show pm_E _ _ _ 198 [(0, .ref 18), (1, .int (iI i)), (2, .int (iI (k')))] [] _ _ _ _
        refine pm_e_sim pm_a169_198 rfl ?_
        show pm_E _ _ _ 199 [(0, .ref 18), (1, .int (iI i)), (2, .int (iI (k')))] [.ref 18] _ _ _ _
        refine pm_i_get pm_a169_199 rfl (mh_get (j := 0) hA rfl) rfl ?_
        show pm_E _ _ _ 202 [(0, .ref 18), (1, .int (iI i)), (2, .int (iI (k')))] [.ref 31] _ _ _ _
        refine pm_e_sim pm_a169_202 rfl ?_
        show pm_E _ _ _ 203 [(0, .ref 18), (1, .int (iI i)), (2, .int (iI (k')))] [.int (iI i), .ref 31] _ _ _ _
        refine pm_i_bld pm_a169_203 (mh_get (j := 13) hA rfl) (by omega) (by omega) ⟨by omega, by omega⟩ ?_
        show pm_E _ _ _ 204 [(0, .ref 18), (1, .int (iI i)), (2, .int (iI (k')))] [.int (iI ((a 13) (i)))] _ _ _ _
        refine pm_i_eq (t := 213) pm_a169_204 rfl ⟨by omega, by omega⟩ (fun h_302 => ?_) (fun h_302 => ?_)
        · skip
          show pm_E _ _ _ 213 [(0, .ref 18), (1, .int (iI i)), (2, .int (iI (k')))] [] _ _ _ _
          refine pm_e_sim pm_a169_213 rfl ?_
          show pm_E _ _ _ 214 [(0, .ref 18), (1, .int (iI i)), (2, .int (iI (k')))] [.int (iI i)] _ _ _ _
          refine pm_e_sim pm_a169_214 rfl ?_
          show pm_E _ _ _ 215 [(0, .ref 18), (1, .int (iI i)), (2, .int (iI (k')))] [.ref 18, .int (iI i)] _ _ _ _
          refine pm_i_get pm_a169_215 rfl (mh_get (j := 0) hA rfl) rfl ?_
          show pm_E _ _ _ 218 [(0, .ref 18), (1, .int (iI i)), (2, .int (iI (k')))] [.int (iI (s 6)), .int (iI i)] _ _ _ _
          refine pm_c_ge (t := 230) pm_a169_218 rfl ⟨by omega, by omega⟩ ⟨by omega, by omega⟩ (fun h_303 => ?_) (fun h_303 => ?_)
          · skip
            show pm_E _ _ _ 230 [(0, .ref 18), (1, .int (iI i)), (2, .int (iI (k')))] [] _ _ _ _
            refine pm_e_sim pm_a169_230 rfl ?_
            refine pm_e_top (y := iI 0) (by decide +kernel) ?_
            show pm_E _ _ _ 231 [(0, .ref 18), (1, .int (iI i)), (2, .int (iI (k')))] [.int (iI 0)] _ _ _ _
            refine pm_e_sim pm_a169_231 rfl ?_
            show pm_E _ _ _ 232 [(0, .ref 18), (1, .int (iI i)), (2, .int (iI 0))] [] _ _ _ _
            refine pm_e_sim pm_a169_232 rfl ?_
            show pm_E _ _ _ 233 [(0, .ref 18), (1, .int (iI i)), (2, .int (iI 0))] [.int (iI 0)] _ _ _ _
            refine pm_e_sim pm_a169_233 rfl ?_
            refine pm_e_top (y := iI 1) (by decide +kernel) ?_
            show pm_E _ _ _ 234 [(0, .ref 18), (1, .int (iI i)), (2, .int (iI 0))] [.int (iI 1), .int (iI 0)] _ _ _ _
            refine pm_e_ict pm_a169_234 rfl (by decide +kernel) ?_
            show pm_E _ _ _ 262 [(0, .ref 18), (1, .int (iI i)), (2, .int (iI 0))] [] _ _ _ _
            refine pm_e_sim pm_a169_262 rfl ?_
            show pm_E _ _ _ 263 [(0, .ref 18), (1, .int (iI i)), (2, .int (iI 0))] [.int (iI 0)] _ _ _ _
            refine pm_e_sim pm_a169_263 rfl ?_
            refine pm_e_top (y := iI 9) (by decide +kernel) ?_
            show pm_E _ _ _ 265 [(0, .ref 18), (1, .int (iI i)), (2, .int (iI 0))] [.int (iI 9), .int (iI 0)] _ _ _ _
            refine pm_e_ict pm_a169_265 rfl (by decide +kernel) ?_
            show pm_E _ _ _ 288 [(0, .ref 18), (1, .int (iI i)), (2, .int (iI 0))] [] _ _ _ _
            refine pm_e_sim pm_a169_288 rfl ?_
            show pm_E _ _ _ 289 [(0, .ref 18), (1, .int (iI i)), (2, .int (iI 0))] [.int (iI 0)] _ _ _ _
            refine pm_e_ift pm_a169_289 rfl (by decide +kernel) ?_
            show pm_E _ _ _ 338 [(0, .ref 18), (1, .int (iI i)), (2, .int (iI 0))] [] _ _ _ _
            refine pm_e_inc (y := iI (i + 1)) pm_a169_338 rfl (iI_add _ _) (by decide +kernel) rfl ?_
            show pm_E _ _ _ 341 [(0, .ref 18), (1, .int (iI (i + 1))), (2, .int (iI 0))] [] _ _ _ _
            refine pm_e_goto pm_a169_341 rfl ?_
            show pm_E _ _ _ 151 [(0, .ref 18), (1, .int (iI (i + 1))), (2, .int (iI 0))] [] _ _ _ _
            show pm_E _ _ _ 151 ([(0, .ref 18), (1, .int (iI (i + 1)))] ++ [(2, .int (iI 0))]) [] _ _ _ _
            refine pm_e_more [(2, .int (iI 0))] (show ([0, 1, 2] : List Nat).Nodup from by decide) ?_
            exact ih (i + 1) s a (by omega) (by omega) fS fA (by omega) (by omega) kk (by omega)
          · skip
            show pm_E _ _ _ 221 [(0, .ref 18), (1, .int (iI i)), (2, .int (iI (k')))] [] _ _ _ _
            refine pm_e_sim pm_a169_221 rfl ?_
            show pm_E _ _ _ 222 [(0, .ref 18), (1, .int (iI i)), (2, .int (iI (k')))] [.ref 18] _ _ _ _
            refine pm_i_get pm_a169_222 rfl (mh_get (j := 0) hA rfl) rfl ?_
            show pm_E _ _ _ 225 [(0, .ref 18), (1, .int (iI i)), (2, .int (iI (k')))] [.ref 22] _ _ _ _
            refine pm_e_sim pm_a169_225 rfl ?_
            show pm_E _ _ _ 226 [(0, .ref 18), (1, .int (iI i)), (2, .int (iI (k')))] [.int (iI i), .ref 22] _ _ _ _
            refine pm_i_ald pm_a169_226 (mh_get (j := 4) hA rfl) (by omega) (by omega) ⟨by omega, by omega⟩ ?_
            show pm_E _ _ _ 227 [(0, .ref 18), (1, .int (iI i)), (2, .int (iI (k')))] [.int (iI ((a 4) (i)))] _ _ _ _
            refine pm_e_goto pm_a169_227 rfl ?_
            show pm_E _ _ _ 231 [(0, .ref 18), (1, .int (iI i)), (2, .int (iI (k')))] [.int (iI ((a 4) (i)))] _ _ _ _
            refine pm_e_sim pm_a169_231 rfl ?_
            show pm_E _ _ _ 232 [(0, .ref 18), (1, .int (iI i)), (2, .int (iI ((a 4) (i))))] [] _ _ _ _
            refine pm_e_sim pm_a169_232 rfl ?_
            show pm_E _ _ _ 233 [(0, .ref 18), (1, .int (iI i)), (2, .int (iI ((a 4) (i))))] [.int (iI ((a 4) (i)))] _ _ _ _
            refine pm_e_sim pm_a169_233 rfl ?_
            refine pm_e_top (y := iI 1) (by decide +kernel) ?_
            show pm_E _ _ _ 234 [(0, .ref 18), (1, .int (iI i)), (2, .int (iI ((a 4) (i))))] [.int (iI 1), .int (iI ((a 4) (i)))] _ _ _ _
            refine pm_c_ne (t := 262) pm_a169_234 rfl ⟨by omega, by omega⟩ ⟨by omega, by omega⟩ (fun h_304 => ?_) (fun h_304 => ?_)
            · skip
              show pm_E _ _ _ 262 [(0, .ref 18), (1, .int (iI i)), (2, .int (iI ((a 4) (i))))] [] _ _ _ _
              refine pm_e_sim pm_a169_262 rfl ?_
              show pm_E _ _ _ 263 [(0, .ref 18), (1, .int (iI i)), (2, .int (iI ((a 4) (i))))] [.int (iI ((a 4) (i)))] _ _ _ _
              refine pm_e_sim pm_a169_263 rfl ?_
              refine pm_e_top (y := iI 9) (by decide +kernel) ?_
              show pm_E _ _ _ 265 [(0, .ref 18), (1, .int (iI i)), (2, .int (iI ((a 4) (i))))] [.int (iI 9), .int (iI ((a 4) (i)))] _ _ _ _
              refine pm_c_le (t := 288) pm_a169_265 rfl ⟨by omega, by omega⟩ ⟨by omega, by omega⟩ (fun h_305 => ?_) (fun h_305 => ?_)
              · skip
                show pm_E _ _ _ 288 [(0, .ref 18), (1, .int (iI i)), (2, .int (iI ((a 4) (i))))] [] _ _ _ _
                refine pm_e_sim pm_a169_288 rfl ?_
                show pm_E _ _ _ 289 [(0, .ref 18), (1, .int (iI i)), (2, .int (iI ((a 4) (i))))] [.int (iI ((a 4) (i)))] _ _ _ _
                refine pm_i_eq (t := 338) pm_a169_289 rfl ⟨by omega, by omega⟩ (fun h_306 => ?_) (fun h_306 => ?_)
                · skip
                  show pm_E _ _ _ 338 [(0, .ref 18), (1, .int (iI i)), (2, .int (iI ((a 4) (i))))] [] _ _ _ _
                  refine pm_e_inc (y := iI (i + 1)) pm_a169_338 rfl (iI_add _ _) (by decide +kernel) rfl ?_
                  show pm_E _ _ _ 341 [(0, .ref 18), (1, .int (iI (i + 1))), (2, .int (iI ((a 4) (i))))] [] _ _ _ _
                  refine pm_e_goto pm_a169_341 rfl ?_
                  show pm_E _ _ _ 151 [(0, .ref 18), (1, .int (iI (i + 1))), (2, .int (iI ((a 4) (i))))] [] _ _ _ _
                  show pm_E _ _ _ 151 ([(0, .ref 18), (1, .int (iI (i + 1)))] ++ [(2, .int (iI ((a 4) (i))))]) [] _ _ _ _
                  refine pm_e_more [(2, .int (iI ((a 4) (i))))] (show ([0, 1, 2] : List Nat).Nodup from by decide) ?_
                  exact ih (i + 1) s a (by omega) (by omega) fS fA (by omega) (by omega) kk (by omega)
                · skip
                  show pm_E _ _ _ 292 [(0, .ref 18), (1, .int (iI i)), (2, .int (iI ((a 4) (i))))] [] _ _ _ _
                  refine pm_e_sim pm_a169_292 rfl ?_
                  show pm_E _ _ _ 293 [(0, .ref 18), (1, .int (iI i)), (2, .int (iI ((a 4) (i))))] [.ref 18] _ _ _ _
                  refine pm_e_sim pm_a169_293 rfl ?_
                  show pm_E _ _ _ 294 [(0, .ref 18), (1, .int (iI i)), (2, .int (iI ((a 4) (i))))] [.int (iI ((a 4) (i))), .ref 18] _ _ _ _
                  refine pm_e_sim pm_a169_294 rfl ?_
                  refine pm_e_top (y := iI 2) (by decide +kernel) ?_
                  show pm_E _ _ _ 295 [(0, .ref 18), (1, .int (iI i)), (2, .int (iI ((a 4) (i))))] [.int (iI 2), .int (iI ((a 4) (i))), .ref 18] _ _ _ _
                  refine pm_c_ne (t := 303) pm_a169_295 rfl ⟨by omega, by omega⟩ ⟨by omega, by omega⟩ (fun h_307 => ?_) (fun h_307 => ?_)
                  · skip
                    show pm_E _ _ _ 303 [(0, .ref 18), (1, .int (iI i)), (2, .int (iI ((a 4) (i))))] [.ref 18] _ _ _ _
                    refine pm_e_sim pm_a169_303 rfl ?_
                    show pm_E _ _ _ 304 [(0, .ref 18), (1, .int (iI i)), (2, .int (iI ((a 4) (i))))] [.int (iI ((a 4) (i))), .ref 18] _ _ _ _
                    refine pm_e_sim pm_a169_304 rfl ?_
                    refine pm_e_top (y := iI 3) (by decide +kernel) ?_
                    show pm_E _ _ _ 305 [(0, .ref 18), (1, .int (iI i)), (2, .int (iI ((a 4) (i))))] [.int (iI 3), .int (iI ((a 4) (i))), .ref 18] _ _ _ _
                    refine pm_c_ne (t := 313) pm_a169_305 rfl ⟨by omega, by omega⟩ ⟨by omega, by omega⟩ (fun h_308 => ?_) (fun h_308 => ?_)
                    · skip
                      show pm_E _ _ _ 313 [(0, .ref 18), (1, .int (iI i)), (2, .int (iI ((a 4) (i))))] [.ref 18] _ _ _ _
                      refine pm_e_sim pm_a169_313 rfl ?_
                      show pm_E _ _ _ 314 [(0, .ref 18), (1, .int (iI i)), (2, .int (iI ((a 4) (i))))] [.int (iI ((a 4) (i))), .ref 18] _ _ _ _
                      refine pm_e_sim pm_a169_314 rfl ?_
                      refine pm_e_top (y := iI 4) (by decide +kernel) ?_
                      show pm_E _ _ _ 315 [(0, .ref 18), (1, .int (iI i)), (2, .int (iI ((a 4) (i))))] [.int (iI 4), .int (iI ((a 4) (i))), .ref 18] _ _ _ _
                      refine pm_c_ne (t := 323) pm_a169_315 rfl ⟨by omega, by omega⟩ ⟨by omega, by omega⟩ (fun h_309 => ?_) (fun h_309 => ?_)
                      · skip
                        show pm_E _ _ _ 323 [(0, .ref 18), (1, .int (iI i)), (2, .int (iI ((a 4) (i))))] [.ref 18] _ _ _ _
                        refine pm_e_sim pm_a169_323 rfl ?_
                        show pm_E _ _ _ 324 [(0, .ref 18), (1, .int (iI i)), (2, .int (iI ((a 4) (i))))] [.int (iI ((a 4) (i))), .ref 18] _ _ _ _
                        refine pm_e_sim pm_a169_324 rfl ?_
                        refine pm_e_top (y := iI 5) (by decide +kernel) ?_
                        show pm_E _ _ _ 325 [(0, .ref 18), (1, .int (iI i)), (2, .int (iI ((a 4) (i))))] [.int (iI 5), .int (iI ((a 4) (i))), .ref 18] _ _ _ _
                        refine pm_c_ne (t := 333) pm_a169_325 rfl ⟨by omega, by omega⟩ ⟨by omega, by omega⟩ (fun h_310 => ?_) (fun h_310 => ?_)
                        · skip
                          show pm_E _ _ _ 333 [(0, .ref 18), (1, .int (iI i)), (2, .int (iI ((a 4) (i))))] [.ref 18] _ _ _ _
                          refine pm_e_sim pm_a169_333 rfl ?_
                          refine pm_e_top (y := iI 88) (by decide +kernel) ?_
                          show pm_E _ _ _ 335 [(0, .ref 18), (1, .int (iI i)), (2, .int (iI ((a 4) (i))))] [.int (iI 88), .ref 18] _ _ _ _
                          refine pm_i_callv (k := 18) (T2 := pm_mm172) pm_a169_335 rfl rfl rfl (mh_get (j := 0) hA rfl) ⟨Nat.le_of_ble_eq_true rfl, Nat.le_of_ble_eq_true rfl, rfl, by decide +kernel⟩ ?_
                          show pm_E none _ _ 0 [(0, .ref 18), (1, .int (iI 88))] [] _ _ _ _
                          refine M_say hA (by omega) (by omega) ?_
                          obtain ⟨s7_, es7⟩ : ∃ z, z = updS s 23 (s 23 + 1) := ⟨_, rfl⟩
                          obtain ⟨a7_, ea7⟩ : ∃ z, z = updA a 11 (updI (a 11) (s 23) (88)) := ⟨_, rfl⟩
                          rw [← es7, ← ea7]
                          have fs7 : ∀ j, j ≠ 23 → s7_ j = s0 j := fun j hj => by rw [es7]; simp [updS, hj, fS j hj]
                          have fa7 : ∀ j, j ≠ 11 → a7_ j = a0 j := fun j hj => by rw [ea7]; simp [updA, hj, fA j hj]
                          have t7 : s7_ 23 = s 23 + 1 := by rw [es7]; rfl
                          have x6_7 := fs7 6 (by omega)
                          have x4_7 : a7_ 4 = a0 4 := fa7 4 (by omega)
                          have x5_7 : a7_ 5 = a0 5 := fa7 5 (by omega)
                          have x12_7 : a7_ 12 = a0 12 := fa7 12 (by omega)
                          have x13_7 : a7_ 13 = a0 13 := fa7 13 (by omega)
                          have y4_7 : a7_ 4 i = a0 4 i := by rw [x4_7]
                          have y5_7 : a7_ 5 i = a0 5 i := by rw [x5_7]
                          have y13_7 : a7_ 13 i = a0 13 i := by rw [x13_7]
                          show pm_E _ _ _ 338 [(0, .ref 18), (1, .int (iI i)), (2, .int (iI ((a 4) (i))))] [] _ _ _ _
                          refine pm_e_inc (y := iI (i + 1)) pm_a169_338 rfl (iI_add _ _) (by decide +kernel) rfl ?_
                          show pm_E _ _ _ 341 [(0, .ref 18), (1, .int (iI (i + 1))), (2, .int (iI ((a 4) (i))))] [] _ _ _ _
                          refine pm_e_goto pm_a169_341 rfl ?_
                          show pm_E _ _ _ 151 [(0, .ref 18), (1, .int (iI (i + 1))), (2, .int (iI ((a 4) (i))))] [] _ _ _ _
                          show pm_E _ _ _ 151 ([(0, .ref 18), (1, .int (iI (i + 1)))] ++ [(2, .int (iI ((a 4) (i))))]) [] _ _ _ _
                          refine pm_e_more [(2, .int (iI ((a 4) (i))))] (show ([0, 1, 2] : List Nat).Nodup from by decide) ?_
                          exact ih (i + 1) s7_ a7_ (by omega) (by omega) fs7 fa7 (by omega) (by omega) kk (by omega)
                        · skip
                          show pm_E _ _ _ 328 [(0, .ref 18), (1, .int (iI i)), (2, .int (iI ((a 4) (i))))] [.ref 18] _ _ _ _
                          refine pm_e_sim pm_a169_328 rfl ?_
                          refine pm_e_top (y := iI 70) (by decide +kernel) ?_
                          show pm_E _ _ _ 330 [(0, .ref 18), (1, .int (iI i)), (2, .int (iI ((a 4) (i))))] [.int (iI 70), .ref 18] _ _ _ _
                          refine pm_e_goto pm_a169_330 rfl ?_
                          show pm_E _ _ _ 335 [(0, .ref 18), (1, .int (iI i)), (2, .int (iI ((a 4) (i))))] [.int (iI 70), .ref 18] _ _ _ _
                          refine pm_i_callv (k := 18) (T2 := pm_mm172) pm_a169_335 rfl rfl rfl (mh_get (j := 0) hA rfl) ⟨Nat.le_of_ble_eq_true rfl, Nat.le_of_ble_eq_true rfl, rfl, by decide +kernel⟩ ?_
                          show pm_E none _ _ 0 [(0, .ref 18), (1, .int (iI 70))] [] _ _ _ _
                          refine M_say hA (by omega) (by omega) ?_
                          obtain ⟨s8_, es8⟩ : ∃ z, z = updS s 23 (s 23 + 1) := ⟨_, rfl⟩
                          obtain ⟨a8_, ea8⟩ : ∃ z, z = updA a 11 (updI (a 11) (s 23) (70)) := ⟨_, rfl⟩
                          rw [← es8, ← ea8]
                          have fs8 : ∀ j, j ≠ 23 → s8_ j = s0 j := fun j hj => by rw [es8]; simp [updS, hj, fS j hj]
                          have fa8 : ∀ j, j ≠ 11 → a8_ j = a0 j := fun j hj => by rw [ea8]; simp [updA, hj, fA j hj]
                          have t8 : s8_ 23 = s 23 + 1 := by rw [es8]; rfl
                          have x6_8 := fs8 6 (by omega)
                          have x4_8 : a8_ 4 = a0 4 := fa8 4 (by omega)
                          have x5_8 : a8_ 5 = a0 5 := fa8 5 (by omega)
                          have x12_8 : a8_ 12 = a0 12 := fa8 12 (by omega)
                          have x13_8 : a8_ 13 = a0 13 := fa8 13 (by omega)
                          have y4_8 : a8_ 4 i = a0 4 i := by rw [x4_8]
                          have y5_8 : a8_ 5 i = a0 5 i := by rw [x5_8]
                          have y13_8 : a8_ 13 i = a0 13 i := by rw [x13_8]
                          show pm_E _ _ _ 338 [(0, .ref 18), (1, .int (iI i)), (2, .int (iI ((a 4) (i))))] [] _ _ _ _
                          refine pm_e_inc (y := iI (i + 1)) pm_a169_338 rfl (iI_add _ _) (by decide +kernel) rfl ?_
                          show pm_E _ _ _ 341 [(0, .ref 18), (1, .int (iI (i + 1))), (2, .int (iI ((a 4) (i))))] [] _ _ _ _
                          refine pm_e_goto pm_a169_341 rfl ?_
                          show pm_E _ _ _ 151 [(0, .ref 18), (1, .int (iI (i + 1))), (2, .int (iI ((a 4) (i))))] [] _ _ _ _
                          show pm_E _ _ _ 151 ([(0, .ref 18), (1, .int (iI (i + 1)))] ++ [(2, .int (iI ((a 4) (i))))]) [] _ _ _ _
                          refine pm_e_more [(2, .int (iI ((a 4) (i))))] (show ([0, 1, 2] : List Nat).Nodup from by decide) ?_
                          exact ih (i + 1) s8_ a8_ (by omega) (by omega) fs8 fa8 (by omega) (by omega) kk (by omega)
                      · skip
                        show pm_E _ _ _ 318 [(0, .ref 18), (1, .int (iI i)), (2, .int (iI ((a 4) (i))))] [.ref 18] _ _ _ _
                        refine pm_e_sim pm_a169_318 rfl ?_
                        refine pm_e_top (y := iI 73) (by decide +kernel) ?_
                        show pm_E _ _ _ 320 [(0, .ref 18), (1, .int (iI i)), (2, .int (iI ((a 4) (i))))] [.int (iI 73), .ref 18] _ _ _ _
                        refine pm_e_goto pm_a169_320 rfl ?_
                        show pm_E _ _ _ 335 [(0, .ref 18), (1, .int (iI i)), (2, .int (iI ((a 4) (i))))] [.int (iI 73), .ref 18] _ _ _ _
                        refine pm_i_callv (k := 18) (T2 := pm_mm172) pm_a169_335 rfl rfl rfl (mh_get (j := 0) hA rfl) ⟨Nat.le_of_ble_eq_true rfl, Nat.le_of_ble_eq_true rfl, rfl, by decide +kernel⟩ ?_
                        show pm_E none _ _ 0 [(0, .ref 18), (1, .int (iI 73))] [] _ _ _ _
                        refine M_say hA (by omega) (by omega) ?_
                        obtain ⟨s9_, es9⟩ : ∃ z, z = updS s 23 (s 23 + 1) := ⟨_, rfl⟩
                        obtain ⟨a9_, ea9⟩ : ∃ z, z = updA a 11 (updI (a 11) (s 23) (73)) := ⟨_, rfl⟩
                        rw [← es9, ← ea9]
                        have fs9 : ∀ j, j ≠ 23 → s9_ j = s0 j := fun j hj => by rw [es9]; simp [updS, hj, fS j hj]
                        have fa9 : ∀ j, j ≠ 11 → a9_ j = a0 j := fun j hj => by rw [ea9]; simp [updA, hj, fA j hj]
                        have t9 : s9_ 23 = s 23 + 1 := by rw [es9]; rfl
                        have x6_9 := fs9 6 (by omega)
                        have x4_9 : a9_ 4 = a0 4 := fa9 4 (by omega)
                        have x5_9 : a9_ 5 = a0 5 := fa9 5 (by omega)
                        have x12_9 : a9_ 12 = a0 12 := fa9 12 (by omega)
                        have x13_9 : a9_ 13 = a0 13 := fa9 13 (by omega)
                        have y4_9 : a9_ 4 i = a0 4 i := by rw [x4_9]
                        have y5_9 : a9_ 5 i = a0 5 i := by rw [x5_9]
                        have y13_9 : a9_ 13 i = a0 13 i := by rw [x13_9]
                        show pm_E _ _ _ 338 [(0, .ref 18), (1, .int (iI i)), (2, .int (iI ((a 4) (i))))] [] _ _ _ _
                        refine pm_e_inc (y := iI (i + 1)) pm_a169_338 rfl (iI_add _ _) (by decide +kernel) rfl ?_
                        show pm_E _ _ _ 341 [(0, .ref 18), (1, .int (iI (i + 1))), (2, .int (iI ((a 4) (i))))] [] _ _ _ _
                        refine pm_e_goto pm_a169_341 rfl ?_
                        show pm_E _ _ _ 151 [(0, .ref 18), (1, .int (iI (i + 1))), (2, .int (iI ((a 4) (i))))] [] _ _ _ _
                        show pm_E _ _ _ 151 ([(0, .ref 18), (1, .int (iI (i + 1)))] ++ [(2, .int (iI ((a 4) (i))))]) [] _ _ _ _
                        refine pm_e_more [(2, .int (iI ((a 4) (i))))] (show ([0, 1, 2] : List Nat).Nodup from by decide) ?_
                        exact ih (i + 1) s9_ a9_ (by omega) (by omega) fs9 fa9 (by omega) (by omega) kk (by omega)
                    · skip
                      show pm_E _ _ _ 308 [(0, .ref 18), (1, .int (iI i)), (2, .int (iI ((a 4) (i))))] [.ref 18] _ _ _ _
                      refine pm_e_sim pm_a169_308 rfl ?_
                      refine pm_e_top (y := iI 75) (by decide +kernel) ?_
                      show pm_E _ _ _ 310 [(0, .ref 18), (1, .int (iI i)), (2, .int (iI ((a 4) (i))))] [.int (iI 75), .ref 18] _ _ _ _
                      refine pm_e_goto pm_a169_310 rfl ?_
                      show pm_E _ _ _ 335 [(0, .ref 18), (1, .int (iI i)), (2, .int (iI ((a 4) (i))))] [.int (iI 75), .ref 18] _ _ _ _
                      refine pm_i_callv (k := 18) (T2 := pm_mm172) pm_a169_335 rfl rfl rfl (mh_get (j := 0) hA rfl) ⟨Nat.le_of_ble_eq_true rfl, Nat.le_of_ble_eq_true rfl, rfl, by decide +kernel⟩ ?_
                      show pm_E none _ _ 0 [(0, .ref 18), (1, .int (iI 75))] [] _ _ _ _
                      refine M_say hA (by omega) (by omega) ?_
                      obtain ⟨s10_, es10⟩ : ∃ z, z = updS s 23 (s 23 + 1) := ⟨_, rfl⟩
                      obtain ⟨a10_, ea10⟩ : ∃ z, z = updA a 11 (updI (a 11) (s 23) (75)) := ⟨_, rfl⟩
                      rw [← es10, ← ea10]
                      have fs10 : ∀ j, j ≠ 23 → s10_ j = s0 j := fun j hj => by rw [es10]; simp [updS, hj, fS j hj]
                      have fa10 : ∀ j, j ≠ 11 → a10_ j = a0 j := fun j hj => by rw [ea10]; simp [updA, hj, fA j hj]
                      have t10 : s10_ 23 = s 23 + 1 := by rw [es10]; rfl
                      have x6_10 := fs10 6 (by omega)
                      have x4_10 : a10_ 4 = a0 4 := fa10 4 (by omega)
                      have x5_10 : a10_ 5 = a0 5 := fa10 5 (by omega)
                      have x12_10 : a10_ 12 = a0 12 := fa10 12 (by omega)
                      have x13_10 : a10_ 13 = a0 13 := fa10 13 (by omega)
                      have y4_10 : a10_ 4 i = a0 4 i := by rw [x4_10]
                      have y5_10 : a10_ 5 i = a0 5 i := by rw [x5_10]
                      have y13_10 : a10_ 13 i = a0 13 i := by rw [x13_10]
                      show pm_E _ _ _ 338 [(0, .ref 18), (1, .int (iI i)), (2, .int (iI ((a 4) (i))))] [] _ _ _ _
                      refine pm_e_inc (y := iI (i + 1)) pm_a169_338 rfl (iI_add _ _) (by decide +kernel) rfl ?_
                      show pm_E _ _ _ 341 [(0, .ref 18), (1, .int (iI (i + 1))), (2, .int (iI ((a 4) (i))))] [] _ _ _ _
                      refine pm_e_goto pm_a169_341 rfl ?_
                      show pm_E _ _ _ 151 [(0, .ref 18), (1, .int (iI (i + 1))), (2, .int (iI ((a 4) (i))))] [] _ _ _ _
                      show pm_E _ _ _ 151 ([(0, .ref 18), (1, .int (iI (i + 1)))] ++ [(2, .int (iI ((a 4) (i))))]) [] _ _ _ _
                      refine pm_e_more [(2, .int (iI ((a 4) (i))))] (show ([0, 1, 2] : List Nat).Nodup from by decide) ?_
                      exact ih (i + 1) s10_ a10_ (by omega) (by omega) fs10 fa10 (by omega) (by omega) kk (by omega)
                  · skip
                    show pm_E _ _ _ 298 [(0, .ref 18), (1, .int (iI i)), (2, .int (iI ((a 4) (i))))] [.ref 18] _ _ _ _
                    refine pm_e_sim pm_a169_298 rfl ?_
                    refine pm_e_top (y := iI 83) (by decide +kernel) ?_
                    show pm_E _ _ _ 300 [(0, .ref 18), (1, .int (iI i)), (2, .int (iI ((a 4) (i))))] [.int (iI 83), .ref 18] _ _ _ _
                    refine pm_e_goto pm_a169_300 rfl ?_
                    show pm_E _ _ _ 335 [(0, .ref 18), (1, .int (iI i)), (2, .int (iI ((a 4) (i))))] [.int (iI 83), .ref 18] _ _ _ _
                    refine pm_i_callv (k := 18) (T2 := pm_mm172) pm_a169_335 rfl rfl rfl (mh_get (j := 0) hA rfl) ⟨Nat.le_of_ble_eq_true rfl, Nat.le_of_ble_eq_true rfl, rfl, by decide +kernel⟩ ?_
                    show pm_E none _ _ 0 [(0, .ref 18), (1, .int (iI 83))] [] _ _ _ _
                    refine M_say hA (by omega) (by omega) ?_
                    obtain ⟨s11_, es11⟩ : ∃ z, z = updS s 23 (s 23 + 1) := ⟨_, rfl⟩
                    obtain ⟨a11_, ea11⟩ : ∃ z, z = updA a 11 (updI (a 11) (s 23) (83)) := ⟨_, rfl⟩
                    rw [← es11, ← ea11]
                    have fs11 : ∀ j, j ≠ 23 → s11_ j = s0 j := fun j hj => by rw [es11]; simp [updS, hj, fS j hj]
                    have fa11 : ∀ j, j ≠ 11 → a11_ j = a0 j := fun j hj => by rw [ea11]; simp [updA, hj, fA j hj]
                    have t11 : s11_ 23 = s 23 + 1 := by rw [es11]; rfl
                    have x6_11 := fs11 6 (by omega)
                    have x4_11 : a11_ 4 = a0 4 := fa11 4 (by omega)
                    have x5_11 : a11_ 5 = a0 5 := fa11 5 (by omega)
                    have x12_11 : a11_ 12 = a0 12 := fa11 12 (by omega)
                    have x13_11 : a11_ 13 = a0 13 := fa11 13 (by omega)
                    have y4_11 : a11_ 4 i = a0 4 i := by rw [x4_11]
                    have y5_11 : a11_ 5 i = a0 5 i := by rw [x5_11]
                    have y13_11 : a11_ 13 i = a0 13 i := by rw [x13_11]
                    show pm_E _ _ _ 338 [(0, .ref 18), (1, .int (iI i)), (2, .int (iI ((a 4) (i))))] [] _ _ _ _
                    refine pm_e_inc (y := iI (i + 1)) pm_a169_338 rfl (iI_add _ _) (by decide +kernel) rfl ?_
                    show pm_E _ _ _ 341 [(0, .ref 18), (1, .int (iI (i + 1))), (2, .int (iI ((a 4) (i))))] [] _ _ _ _
                    refine pm_e_goto pm_a169_341 rfl ?_
                    show pm_E _ _ _ 151 [(0, .ref 18), (1, .int (iI (i + 1))), (2, .int (iI ((a 4) (i))))] [] _ _ _ _
                    show pm_E _ _ _ 151 ([(0, .ref 18), (1, .int (iI (i + 1)))] ++ [(2, .int (iI ((a 4) (i))))]) [] _ _ _ _
                    refine pm_e_more [(2, .int (iI ((a 4) (i))))] (show ([0, 1, 2] : List Nat).Nodup from by decide) ?_
                    exact ih (i + 1) s11_ a11_ (by omega) (by omega) fs11 fa11 (by omega) (by omega) kk (by omega)
              · skip
                show pm_E _ _ _ 268 [(0, .ref 18), (1, .int (iI i)), (2, .int (iI ((a 4) (i))))] [] _ _ _ _
                refine pm_e_sim pm_a169_268 rfl ?_
                show pm_E _ _ _ 269 [(0, .ref 18), (1, .int (iI i)), (2, .int (iI ((a 4) (i))))] [.ref 18] _ _ _ _
                refine pm_e_sim pm_a169_269 rfl ?_
                show pm_E _ _ _ 270 [(0, .ref 18), (1, .int (iI i)), (2, .int (iI ((a 4) (i))))] [.ref 18, .ref 18] _ _ _ _
                refine pm_i_get pm_a169_270 rfl (mh_get (j := 0) hA rfl) rfl ?_
                show pm_E _ _ _ 273 [(0, .ref 18), (1, .int (iI i)), (2, .int (iI ((a 4) (i))))] [.ref 23, .ref 18] _ _ _ _
                refine pm_e_sim pm_a169_273 rfl ?_
                show pm_E _ _ _ 274 [(0, .ref 18), (1, .int (iI i)), (2, .int (iI ((a 4) (i))))] [.int (iI i), .ref 23, .ref 18] _ _ _ _
                refine pm_i_ald pm_a169_274 (mh_get (j := 5) hA rfl) (by omega) (by omega) ⟨by omega, by omega⟩ ?_
                show pm_E _ _ _ 275 [(0, .ref 18), (1, .int (iI i)), (2, .int (iI ((a 4) (i))))] [.int (iI ((a 5) (i))), .ref 18] _ _ _ _
                refine pm_e_sim pm_a169_275 rfl ?_
                refine pm_e_top (y := iI 1) (by decide +kernel) ?_
                show pm_E _ _ _ 276 [(0, .ref 18), (1, .int (iI i)), (2, .int (iI ((a 4) (i))))] [.int (iI 1), .int (iI ((a 5) (i))), .ref 18] _ _ _ _
                refine pm_e_sim pm_a169_276 rfl ?_
                refine pm_e_top (y := iI ((a 5) (i) - 1)) (iI_sub _ _) ?_
                show pm_E _ _ _ 277 [(0, .ref 18), (1, .int (iI i)), (2, .int (iI ((a 4) (i))))] [.int (iI ((a 5) (i) - 1)), .ref 18] _ _ _ _
                refine pm_e_sim pm_a169_277 rfl ?_
                show pm_E _ _ _ 278 [(0, .ref 18), (1, .int (iI i)), (2, .int (iI ((a 4) (i))))] [.int (iI ((a 4) (i))), .int (iI ((a 5) (i) - 1)), .ref 18] _ _ _ _
                refine pm_e_sim pm_a169_278 rfl ?_
                refine pm_e_top (y := iI 10) (by decide +kernel) ?_
                show pm_E _ _ _ 280 [(0, .ref 18), (1, .int (iI i)), (2, .int (iI ((a 4) (i))))] [.int (iI 10), .int (iI ((a 4) (i))), .int (iI ((a 5) (i) - 1)), .ref 18] _ _ _ _
                refine pm_e_sim pm_a169_280 rfl ?_
                refine pm_e_top (y := iI ((a 4) (i) - 10)) (iI_sub _ _) ?_
                show pm_E _ _ _ 281 [(0, .ref 18), (1, .int (iI i)), (2, .int (iI ((a 4) (i))))] [.int (iI ((a 4) (i) - 10)), .int (iI ((a 5) (i) - 1)), .ref 18] _ _ _ _
                refine pm_e_sim pm_a169_281 rfl ?_
                refine pm_e_top (y := iI ((a 5) (i) - 1 - ((a 4) (i) - 10))) (iI_sub _ _) ?_
                show pm_E _ _ _ 282 [(0, .ref 18), (1, .int (iI i)), (2, .int (iI ((a 4) (i))))] [.int (iI ((a 5) (i) - 1 - ((a 4) (i) - 10))), .ref 18] _ _ _ _
                refine pm_i_callv (k := 18) (T2 := pm_mm173) pm_a169_282 rfl rfl rfl (mh_get (j := 0) hA rfl) ⟨Nat.le_of_ble_eq_true rfl, Nat.le_of_ble_eq_true rfl, rfl, by decide +kernel⟩ ?_
                show pm_E none _ _ 0 [(0, .ref 18), (1, .int (iI ((a 5) (i) - 1 - ((a 4) (i) - 10))))] [] _ _ _ _
                refine M_sayName hA ⟨by omega, by omega⟩ (by omega) (by omega) (fun s12_ a12_ gs12 ga12 t12 u12 => ?_)
                have fs12 : ∀ j, j ≠ 23 → s12_ j = s0 j := fun j hj => by rw [gs12 j hj]; exact fS j hj
                have fa12 : ∀ j, j ≠ 11 → a12_ j = a0 j := fun j hj => by rw [ga12 j hj]; exact fA j hj
                show pm_E _ _ _ 285 [(0, .ref 18), (1, .int (iI i)), (2, .int (iI ((a 4) (i))))] [] _ _ _ _
                refine pm_e_goto pm_a169_285 rfl ?_
                show pm_E _ _ _ 338 [(0, .ref 18), (1, .int (iI i)), (2, .int (iI ((a 4) (i))))] [] _ _ _ _
                refine pm_e_inc (y := iI (i + 1)) pm_a169_338 rfl (iI_add _ _) (by decide +kernel) rfl ?_
                show pm_E _ _ _ 341 [(0, .ref 18), (1, .int (iI (i + 1))), (2, .int (iI ((a 4) (i))))] [] _ _ _ _
                refine pm_e_goto pm_a169_341 rfl ?_
                show pm_E _ _ _ 151 [(0, .ref 18), (1, .int (iI (i + 1))), (2, .int (iI ((a 4) (i))))] [] _ _ _ _
                show pm_E _ _ _ 151 ([(0, .ref 18), (1, .int (iI (i + 1)))] ++ [(2, .int (iI ((a 4) (i))))]) [] _ _ _ _
                refine pm_e_more [(2, .int (iI ((a 4) (i))))] (show ([0, 1, 2] : List Nat).Nodup from by decide) ?_
                exact ih (i + 1) s12_ a12_ (by omega) (by omega) fs12 fa12 (by omega) (by omega) kk (by omega)
            · skip
              show pm_E _ _ _ 237 [(0, .ref 18), (1, .int (iI i)), (2, .int (iI ((a 4) (i))))] [] _ _ _ _
              refine pm_e_sim pm_a169_237 rfl ?_
              show pm_E _ _ _ 238 [(0, .ref 18), (1, .int (iI i)), (2, .int (iI ((a 4) (i))))] [.ref 18] _ _ _ _
              refine pm_e_sim pm_a169_238 rfl ?_
              refine pm_e_top (y := iI 92) (by decide +kernel) ?_
              show pm_E _ _ _ 240 [(0, .ref 18), (1, .int (iI i)), (2, .int (iI ((a 4) (i))))] [.int (iI 92), .ref 18] _ _ _ _
              refine pm_i_callv (k := 18) (T2 := pm_mm172) pm_a169_240 rfl rfl rfl (mh_get (j := 0) hA rfl) ⟨Nat.le_of_ble_eq_true rfl, Nat.le_of_ble_eq_true rfl, rfl, by decide +kernel⟩ ?_
              show pm_E none _ _ 0 [(0, .ref 18), (1, .int (iI 92))] [] _ _ _ _
              refine M_say hA (by omega) (by omega) ?_
              obtain ⟨s13_, es13⟩ : ∃ z, z = updS s 23 (s 23 + 1) := ⟨_, rfl⟩
              obtain ⟨a13_, ea13⟩ : ∃ z, z = updA a 11 (updI (a 11) (s 23) (92)) := ⟨_, rfl⟩
              rw [← es13, ← ea13]
              have fs13 : ∀ j, j ≠ 23 → s13_ j = s0 j := fun j hj => by rw [es13]; simp [updS, hj, fS j hj]
              have fa13 : ∀ j, j ≠ 11 → a13_ j = a0 j := fun j hj => by rw [ea13]; simp [updA, hj, fA j hj]
              have t13 : s13_ 23 = s 23 + 1 := by rw [es13]; rfl
              have x6_13 := fs13 6 (by omega)
              have x4_13 : a13_ 4 = a0 4 := fa13 4 (by omega)
              have x5_13 : a13_ 5 = a0 5 := fa13 5 (by omega)
              have x12_13 : a13_ 12 = a0 12 := fa13 12 (by omega)
              have x13_13 : a13_ 13 = a0 13 := fa13 13 (by omega)
              have y4_13 : a13_ 4 i = a0 4 i := by rw [x4_13]
              have y5_13 : a13_ 5 i = a0 5 i := by rw [x5_13]
              have y13_13 : a13_ 13 i = a0 13 i := by rw [x13_13]
              show pm_E _ _ _ 243 [(0, .ref 18), (1, .int (iI i)), (2, .int (iI ((a 4) (i))))] [] _ _ _ _
              refine pm_e_sim pm_a169_243 rfl ?_
              show pm_E _ _ _ 244 [(0, .ref 18), (1, .int (iI i)), (2, .int (iI ((a 4) (i))))] [.ref 18] _ _ _ _
              refine pm_e_sim pm_a169_244 rfl ?_
              show pm_E _ _ _ 245 [(0, .ref 18), (1, .int (iI i)), (2, .int (iI ((a 4) (i))))] [.ref 18, .ref 18] _ _ _ _
              refine pm_i_get pm_a169_245 rfl (mh_get (j := 0) hA rfl) rfl ?_
              show pm_E _ _ _ 248 [(0, .ref 18), (1, .int (iI i)), (2, .int (iI ((a 4) (i))))] [.ref 23, .ref 18] _ _ _ _
              refine pm_e_sim pm_a169_248 rfl ?_
              show pm_E _ _ _ 249 [(0, .ref 18), (1, .int (iI i)), (2, .int (iI ((a 4) (i))))] [.int (iI i), .ref 23, .ref 18] _ _ _ _
              refine pm_i_ald pm_a169_249 (mh_get (j := 5) hA rfl) (by omega) (by omega) ⟨by omega, by omega⟩ ?_
              show pm_E _ _ _ 250 [(0, .ref 18), (1, .int (iI i)), (2, .int (iI ((a 4) (i))))] [.int (iI ((a13_ 5) (i))), .ref 18] _ _ _ _
              refine pm_i_callv (k := 18) (T2 := pm_mm173) pm_a169_250 rfl rfl rfl (mh_get (j := 0) hA rfl) ⟨Nat.le_of_ble_eq_true rfl, Nat.le_of_ble_eq_true rfl, rfl, by decide +kernel⟩ ?_
              show pm_E none _ _ 0 [(0, .ref 18), (1, .int (iI ((a13_ 5) (i))))] [] _ _ _ _
              refine M_sayName hA ⟨by omega, by omega⟩ (by omega) (by omega) (fun s14_ a14_ gs14 ga14 t14 u14 => ?_)
              have fs14 : ∀ j, j ≠ 23 → s14_ j = s0 j := fun j hj => by rw [gs14 j hj]; exact fs13 j hj
              have fa14 : ∀ j, j ≠ 11 → a14_ j = a0 j := fun j hj => by rw [ga14 j hj]; exact fa13 j hj
              show pm_E _ _ _ 253 [(0, .ref 18), (1, .int (iI i)), (2, .int (iI ((a 4) (i))))] [] _ _ _ _
              refine pm_e_sim pm_a169_253 rfl ?_
              show pm_E _ _ _ 254 [(0, .ref 18), (1, .int (iI i)), (2, .int (iI ((a 4) (i))))] [.ref 18] _ _ _ _
              refine pm_e_sim pm_a169_254 rfl ?_
              refine pm_e_top (y := iI 46) (by decide +kernel) ?_
              show pm_E _ _ _ 256 [(0, .ref 18), (1, .int (iI i)), (2, .int (iI ((a 4) (i))))] [.int (iI 46), .ref 18] _ _ _ _
              refine pm_i_callv (k := 18) (T2 := pm_mm172) pm_a169_256 rfl rfl rfl (mh_get (j := 0) hA rfl) ⟨Nat.le_of_ble_eq_true rfl, Nat.le_of_ble_eq_true rfl, rfl, by decide +kernel⟩ ?_
              show pm_E none _ _ 0 [(0, .ref 18), (1, .int (iI 46))] [] _ _ _ _
              refine M_say hA (by omega) (by omega) ?_
              obtain ⟨s15_, es15⟩ : ∃ z, z = updS s14_ 23 (s14_ 23 + 1) := ⟨_, rfl⟩
              obtain ⟨a15_, ea15⟩ : ∃ z, z = updA a14_ 11 (updI (a14_ 11) (s14_ 23) (46)) := ⟨_, rfl⟩
              rw [← es15, ← ea15]
              have fs15 : ∀ j, j ≠ 23 → s15_ j = s0 j := fun j hj => by rw [es15]; simp [updS, hj, fs14 j hj]
              have fa15 : ∀ j, j ≠ 11 → a15_ j = a0 j := fun j hj => by rw [ea15]; simp [updA, hj, fa14 j hj]
              have t15 : s15_ 23 = s14_ 23 + 1 := by rw [es15]; rfl
              have x6_15 := fs15 6 (by omega)
              have x4_15 : a15_ 4 = a0 4 := fa15 4 (by omega)
              have x5_15 : a15_ 5 = a0 5 := fa15 5 (by omega)
              have x12_15 : a15_ 12 = a0 12 := fa15 12 (by omega)
              have x13_15 : a15_ 13 = a0 13 := fa15 13 (by omega)
              have y4_15 : a15_ 4 i = a0 4 i := by rw [x4_15]
              have y5_15 : a15_ 5 i = a0 5 i := by rw [x5_15]
              have y13_15 : a15_ 13 i = a0 13 i := by rw [x13_15]
              show pm_E _ _ _ 259 [(0, .ref 18), (1, .int (iI i)), (2, .int (iI ((a 4) (i))))] [] _ _ _ _
              refine pm_e_goto pm_a169_259 rfl ?_
              show pm_E _ _ _ 338 [(0, .ref 18), (1, .int (iI i)), (2, .int (iI ((a 4) (i))))] [] _ _ _ _
              refine pm_e_inc (y := iI (i + 1)) pm_a169_338 rfl (iI_add _ _) (by decide +kernel) rfl ?_
              show pm_E _ _ _ 341 [(0, .ref 18), (1, .int (iI (i + 1))), (2, .int (iI ((a 4) (i))))] [] _ _ _ _
              refine pm_e_goto pm_a169_341 rfl ?_
              show pm_E _ _ _ 151 [(0, .ref 18), (1, .int (iI (i + 1))), (2, .int (iI ((a 4) (i))))] [] _ _ _ _
              show pm_E _ _ _ 151 ([(0, .ref 18), (1, .int (iI (i + 1)))] ++ [(2, .int (iI ((a 4) (i))))]) [] _ _ _ _
              refine pm_e_more [(2, .int (iI ((a 4) (i))))] (show ([0, 1, 2] : List Nat).Nodup from by decide) ?_
              exact ih (i + 1) s15_ a15_ (by omega) (by omega) fs15 fa15 (by omega) (by omega) kk (by omega)
        · skip
          show pm_E _ _ _ 207 [(0, .ref 18), (1, .int (iI i)), (2, .int (iI (k')))] [] _ _ _ _
          refine pm_e_sim pm_a169_207 rfl ?_
          show pm_E _ _ _ 208 [(0, .ref 18), (1, .int (iI i)), (2, .int (iI (k')))] [.ref 18] _ _ _ _
          refine pm_e_sim pm_a169_208 rfl ?_
          refine pm_e_top (y := iI 40) (by decide +kernel) ?_
          show pm_E _ _ _ 210 [(0, .ref 18), (1, .int (iI i)), (2, .int (iI (k')))] [.int (iI 40), .ref 18] _ _ _ _
          refine pm_i_callv (k := 18) (T2 := pm_mm172) pm_a169_210 rfl rfl rfl (mh_get (j := 0) hA rfl) ⟨Nat.le_of_ble_eq_true rfl, Nat.le_of_ble_eq_true rfl, rfl, by decide +kernel⟩ ?_
          show pm_E none _ _ 0 [(0, .ref 18), (1, .int (iI 40))] [] _ _ _ _
          refine M_say hA (by omega) (by omega) ?_
          obtain ⟨s16_, es16⟩ : ∃ z, z = updS s 23 (s 23 + 1) := ⟨_, rfl⟩
          obtain ⟨a16_, ea16⟩ : ∃ z, z = updA a 11 (updI (a 11) (s 23) (40)) := ⟨_, rfl⟩
          rw [← es16, ← ea16]
          have fs16 : ∀ j, j ≠ 23 → s16_ j = s0 j := fun j hj => by rw [es16]; simp [updS, hj, fS j hj]
          have fa16 : ∀ j, j ≠ 11 → a16_ j = a0 j := fun j hj => by rw [ea16]; simp [updA, hj, fA j hj]
          have t16 : s16_ 23 = s 23 + 1 := by rw [es16]; rfl
          have x6_16 := fs16 6 (by omega)
          have x4_16 : a16_ 4 = a0 4 := fa16 4 (by omega)
          have x5_16 : a16_ 5 = a0 5 := fa16 5 (by omega)
          have x12_16 : a16_ 12 = a0 12 := fa16 12 (by omega)
          have x13_16 : a16_ 13 = a0 13 := fa16 13 (by omega)
          have y4_16 : a16_ 4 i = a0 4 i := by rw [x4_16]
          have y5_16 : a16_ 5 i = a0 5 i := by rw [x5_16]
          have y13_16 : a16_ 13 i = a0 13 i := by rw [x13_16]
          show pm_E _ _ _ 213 [(0, .ref 18), (1, .int (iI i)), (2, .int (iI (k')))] [] _ _ _ _
          refine pm_e_sim pm_a169_213 rfl ?_
          show pm_E _ _ _ 214 [(0, .ref 18), (1, .int (iI i)), (2, .int (iI (k')))] [.int (iI i)] _ _ _ _
          refine pm_e_sim pm_a169_214 rfl ?_
          show pm_E _ _ _ 215 [(0, .ref 18), (1, .int (iI i)), (2, .int (iI (k')))] [.ref 18, .int (iI i)] _ _ _ _
          refine pm_i_get pm_a169_215 rfl (mh_get (j := 0) hA rfl) rfl ?_
          show pm_E _ _ _ 218 [(0, .ref 18), (1, .int (iI i)), (2, .int (iI (k')))] [.int (iI (s16_ 6)), .int (iI i)] _ _ _ _
          refine pm_c_ge (t := 230) pm_a169_218 rfl ⟨by omega, by omega⟩ ⟨by omega, by omega⟩ (fun h_311 => ?_) (fun h_311 => ?_)
          · skip
            show pm_E _ _ _ 230 [(0, .ref 18), (1, .int (iI i)), (2, .int (iI (k')))] [] _ _ _ _
            refine pm_e_sim pm_a169_230 rfl ?_
            refine pm_e_top (y := iI 0) (by decide +kernel) ?_
            show pm_E _ _ _ 231 [(0, .ref 18), (1, .int (iI i)), (2, .int (iI (k')))] [.int (iI 0)] _ _ _ _
            refine pm_e_sim pm_a169_231 rfl ?_
            show pm_E _ _ _ 232 [(0, .ref 18), (1, .int (iI i)), (2, .int (iI 0))] [] _ _ _ _
            refine pm_e_sim pm_a169_232 rfl ?_
            show pm_E _ _ _ 233 [(0, .ref 18), (1, .int (iI i)), (2, .int (iI 0))] [.int (iI 0)] _ _ _ _
            refine pm_e_sim pm_a169_233 rfl ?_
            refine pm_e_top (y := iI 1) (by decide +kernel) ?_
            show pm_E _ _ _ 234 [(0, .ref 18), (1, .int (iI i)), (2, .int (iI 0))] [.int (iI 1), .int (iI 0)] _ _ _ _
            refine pm_e_ict pm_a169_234 rfl (by decide +kernel) ?_
            show pm_E _ _ _ 262 [(0, .ref 18), (1, .int (iI i)), (2, .int (iI 0))] [] _ _ _ _
            refine pm_e_sim pm_a169_262 rfl ?_
            show pm_E _ _ _ 263 [(0, .ref 18), (1, .int (iI i)), (2, .int (iI 0))] [.int (iI 0)] _ _ _ _
            refine pm_e_sim pm_a169_263 rfl ?_
            refine pm_e_top (y := iI 9) (by decide +kernel) ?_
            show pm_E _ _ _ 265 [(0, .ref 18), (1, .int (iI i)), (2, .int (iI 0))] [.int (iI 9), .int (iI 0)] _ _ _ _
            refine pm_e_ict pm_a169_265 rfl (by decide +kernel) ?_
            show pm_E _ _ _ 288 [(0, .ref 18), (1, .int (iI i)), (2, .int (iI 0))] [] _ _ _ _
            refine pm_e_sim pm_a169_288 rfl ?_
            show pm_E _ _ _ 289 [(0, .ref 18), (1, .int (iI i)), (2, .int (iI 0))] [.int (iI 0)] _ _ _ _
            refine pm_e_ift pm_a169_289 rfl (by decide +kernel) ?_
            show pm_E _ _ _ 338 [(0, .ref 18), (1, .int (iI i)), (2, .int (iI 0))] [] _ _ _ _
            refine pm_e_inc (y := iI (i + 1)) pm_a169_338 rfl (iI_add _ _) (by decide +kernel) rfl ?_
            show pm_E _ _ _ 341 [(0, .ref 18), (1, .int (iI (i + 1))), (2, .int (iI 0))] [] _ _ _ _
            refine pm_e_goto pm_a169_341 rfl ?_
            show pm_E _ _ _ 151 [(0, .ref 18), (1, .int (iI (i + 1))), (2, .int (iI 0))] [] _ _ _ _
            show pm_E _ _ _ 151 ([(0, .ref 18), (1, .int (iI (i + 1)))] ++ [(2, .int (iI 0))]) [] _ _ _ _
            refine pm_e_more [(2, .int (iI 0))] (show ([0, 1, 2] : List Nat).Nodup from by decide) ?_
            exact ih (i + 1) s16_ a16_ (by omega) (by omega) fs16 fa16 (by omega) (by omega) kk (by omega)
          · skip
            show pm_E _ _ _ 221 [(0, .ref 18), (1, .int (iI i)), (2, .int (iI (k')))] [] _ _ _ _
            refine pm_e_sim pm_a169_221 rfl ?_
            show pm_E _ _ _ 222 [(0, .ref 18), (1, .int (iI i)), (2, .int (iI (k')))] [.ref 18] _ _ _ _
            refine pm_i_get pm_a169_222 rfl (mh_get (j := 0) hA rfl) rfl ?_
            show pm_E _ _ _ 225 [(0, .ref 18), (1, .int (iI i)), (2, .int (iI (k')))] [.ref 22] _ _ _ _
            refine pm_e_sim pm_a169_225 rfl ?_
            show pm_E _ _ _ 226 [(0, .ref 18), (1, .int (iI i)), (2, .int (iI (k')))] [.int (iI i), .ref 22] _ _ _ _
            refine pm_i_ald pm_a169_226 (mh_get (j := 4) hA rfl) (by omega) (by omega) ⟨by omega, by omega⟩ ?_
            show pm_E _ _ _ 227 [(0, .ref 18), (1, .int (iI i)), (2, .int (iI (k')))] [.int (iI ((a16_ 4) (i)))] _ _ _ _
            refine pm_e_goto pm_a169_227 rfl ?_
            show pm_E _ _ _ 231 [(0, .ref 18), (1, .int (iI i)), (2, .int (iI (k')))] [.int (iI ((a16_ 4) (i)))] _ _ _ _
            refine pm_e_sim pm_a169_231 rfl ?_
            show pm_E _ _ _ 232 [(0, .ref 18), (1, .int (iI i)), (2, .int (iI ((a16_ 4) (i))))] [] _ _ _ _
            refine pm_e_sim pm_a169_232 rfl ?_
            show pm_E _ _ _ 233 [(0, .ref 18), (1, .int (iI i)), (2, .int (iI ((a16_ 4) (i))))] [.int (iI ((a16_ 4) (i)))] _ _ _ _
            refine pm_e_sim pm_a169_233 rfl ?_
            refine pm_e_top (y := iI 1) (by decide +kernel) ?_
            show pm_E _ _ _ 234 [(0, .ref 18), (1, .int (iI i)), (2, .int (iI ((a16_ 4) (i))))] [.int (iI 1), .int (iI ((a16_ 4) (i)))] _ _ _ _
            refine pm_c_ne (t := 262) pm_a169_234 rfl ⟨by omega, by omega⟩ ⟨by omega, by omega⟩ (fun h_312 => ?_) (fun h_312 => ?_)
            · skip
              show pm_E _ _ _ 262 [(0, .ref 18), (1, .int (iI i)), (2, .int (iI ((a16_ 4) (i))))] [] _ _ _ _
              refine pm_e_sim pm_a169_262 rfl ?_
              show pm_E _ _ _ 263 [(0, .ref 18), (1, .int (iI i)), (2, .int (iI ((a16_ 4) (i))))] [.int (iI ((a16_ 4) (i)))] _ _ _ _
              refine pm_e_sim pm_a169_263 rfl ?_
              refine pm_e_top (y := iI 9) (by decide +kernel) ?_
              show pm_E _ _ _ 265 [(0, .ref 18), (1, .int (iI i)), (2, .int (iI ((a16_ 4) (i))))] [.int (iI 9), .int (iI ((a16_ 4) (i)))] _ _ _ _
              refine pm_c_le (t := 288) pm_a169_265 rfl ⟨by omega, by omega⟩ ⟨by omega, by omega⟩ (fun h_313 => ?_) (fun h_313 => ?_)
              · skip
                show pm_E _ _ _ 288 [(0, .ref 18), (1, .int (iI i)), (2, .int (iI ((a16_ 4) (i))))] [] _ _ _ _
                refine pm_e_sim pm_a169_288 rfl ?_
                show pm_E _ _ _ 289 [(0, .ref 18), (1, .int (iI i)), (2, .int (iI ((a16_ 4) (i))))] [.int (iI ((a16_ 4) (i)))] _ _ _ _
                refine pm_i_eq (t := 338) pm_a169_289 rfl ⟨by omega, by omega⟩ (fun h_314 => ?_) (fun h_314 => ?_)
                · skip
                  show pm_E _ _ _ 338 [(0, .ref 18), (1, .int (iI i)), (2, .int (iI ((a16_ 4) (i))))] [] _ _ _ _
                  refine pm_e_inc (y := iI (i + 1)) pm_a169_338 rfl (iI_add _ _) (by decide +kernel) rfl ?_
                  show pm_E _ _ _ 341 [(0, .ref 18), (1, .int (iI (i + 1))), (2, .int (iI ((a16_ 4) (i))))] [] _ _ _ _
                  refine pm_e_goto pm_a169_341 rfl ?_
                  show pm_E _ _ _ 151 [(0, .ref 18), (1, .int (iI (i + 1))), (2, .int (iI ((a16_ 4) (i))))] [] _ _ _ _
                  show pm_E _ _ _ 151 ([(0, .ref 18), (1, .int (iI (i + 1)))] ++ [(2, .int (iI ((a16_ 4) (i))))]) [] _ _ _ _
                  refine pm_e_more [(2, .int (iI ((a16_ 4) (i))))] (show ([0, 1, 2] : List Nat).Nodup from by decide) ?_
                  exact ih (i + 1) s16_ a16_ (by omega) (by omega) fs16 fa16 (by omega) (by omega) kk (by omega)
                · skip
                  show pm_E _ _ _ 292 [(0, .ref 18), (1, .int (iI i)), (2, .int (iI ((a16_ 4) (i))))] [] _ _ _ _
                  refine pm_e_sim pm_a169_292 rfl ?_
                  show pm_E _ _ _ 293 [(0, .ref 18), (1, .int (iI i)), (2, .int (iI ((a16_ 4) (i))))] [.ref 18] _ _ _ _
                  refine pm_e_sim pm_a169_293 rfl ?_
                  show pm_E _ _ _ 294 [(0, .ref 18), (1, .int (iI i)), (2, .int (iI ((a16_ 4) (i))))] [.int (iI ((a16_ 4) (i))), .ref 18] _ _ _ _
                  refine pm_e_sim pm_a169_294 rfl ?_
                  refine pm_e_top (y := iI 2) (by decide +kernel) ?_
                  show pm_E _ _ _ 295 [(0, .ref 18), (1, .int (iI i)), (2, .int (iI ((a16_ 4) (i))))] [.int (iI 2), .int (iI ((a16_ 4) (i))), .ref 18] _ _ _ _
                  refine pm_c_ne (t := 303) pm_a169_295 rfl ⟨by omega, by omega⟩ ⟨by omega, by omega⟩ (fun h_315 => ?_) (fun h_315 => ?_)
                  · skip
                    show pm_E _ _ _ 303 [(0, .ref 18), (1, .int (iI i)), (2, .int (iI ((a16_ 4) (i))))] [.ref 18] _ _ _ _
                    refine pm_e_sim pm_a169_303 rfl ?_
                    show pm_E _ _ _ 304 [(0, .ref 18), (1, .int (iI i)), (2, .int (iI ((a16_ 4) (i))))] [.int (iI ((a16_ 4) (i))), .ref 18] _ _ _ _
                    refine pm_e_sim pm_a169_304 rfl ?_
                    refine pm_e_top (y := iI 3) (by decide +kernel) ?_
                    show pm_E _ _ _ 305 [(0, .ref 18), (1, .int (iI i)), (2, .int (iI ((a16_ 4) (i))))] [.int (iI 3), .int (iI ((a16_ 4) (i))), .ref 18] _ _ _ _
                    refine pm_c_ne (t := 313) pm_a169_305 rfl ⟨by omega, by omega⟩ ⟨by omega, by omega⟩ (fun h_316 => ?_) (fun h_316 => ?_)
                    · skip
                      show pm_E _ _ _ 313 [(0, .ref 18), (1, .int (iI i)), (2, .int (iI ((a16_ 4) (i))))] [.ref 18] _ _ _ _
                      refine pm_e_sim pm_a169_313 rfl ?_
                      show pm_E _ _ _ 314 [(0, .ref 18), (1, .int (iI i)), (2, .int (iI ((a16_ 4) (i))))] [.int (iI ((a16_ 4) (i))), .ref 18] _ _ _ _
                      refine pm_e_sim pm_a169_314 rfl ?_
                      refine pm_e_top (y := iI 4) (by decide +kernel) ?_
                      show pm_E _ _ _ 315 [(0, .ref 18), (1, .int (iI i)), (2, .int (iI ((a16_ 4) (i))))] [.int (iI 4), .int (iI ((a16_ 4) (i))), .ref 18] _ _ _ _
                      refine pm_c_ne (t := 323) pm_a169_315 rfl ⟨by omega, by omega⟩ ⟨by omega, by omega⟩ (fun h_317 => ?_) (fun h_317 => ?_)
                      · skip
                        show pm_E _ _ _ 323 [(0, .ref 18), (1, .int (iI i)), (2, .int (iI ((a16_ 4) (i))))] [.ref 18] _ _ _ _
                        refine pm_e_sim pm_a169_323 rfl ?_
                        show pm_E _ _ _ 324 [(0, .ref 18), (1, .int (iI i)), (2, .int (iI ((a16_ 4) (i))))] [.int (iI ((a16_ 4) (i))), .ref 18] _ _ _ _
                        refine pm_e_sim pm_a169_324 rfl ?_
                        refine pm_e_top (y := iI 5) (by decide +kernel) ?_
                        show pm_E _ _ _ 325 [(0, .ref 18), (1, .int (iI i)), (2, .int (iI ((a16_ 4) (i))))] [.int (iI 5), .int (iI ((a16_ 4) (i))), .ref 18] _ _ _ _
                        refine pm_c_ne (t := 333) pm_a169_325 rfl ⟨by omega, by omega⟩ ⟨by omega, by omega⟩ (fun h_318 => ?_) (fun h_318 => ?_)
                        · skip
                          show pm_E _ _ _ 333 [(0, .ref 18), (1, .int (iI i)), (2, .int (iI ((a16_ 4) (i))))] [.ref 18] _ _ _ _
                          refine pm_e_sim pm_a169_333 rfl ?_
                          refine pm_e_top (y := iI 88) (by decide +kernel) ?_
                          show pm_E _ _ _ 335 [(0, .ref 18), (1, .int (iI i)), (2, .int (iI ((a16_ 4) (i))))] [.int (iI 88), .ref 18] _ _ _ _
                          refine pm_i_callv (k := 18) (T2 := pm_mm172) pm_a169_335 rfl rfl rfl (mh_get (j := 0) hA rfl) ⟨Nat.le_of_ble_eq_true rfl, Nat.le_of_ble_eq_true rfl, rfl, by decide +kernel⟩ ?_
                          show pm_E none _ _ 0 [(0, .ref 18), (1, .int (iI 88))] [] _ _ _ _
                          refine M_say hA (by omega) (by omega) ?_
                          obtain ⟨s17_, es17⟩ : ∃ z, z = updS s16_ 23 (s16_ 23 + 1) := ⟨_, rfl⟩
                          obtain ⟨a17_, ea17⟩ : ∃ z, z = updA a16_ 11 (updI (a16_ 11) (s16_ 23) (88)) := ⟨_, rfl⟩
                          rw [← es17, ← ea17]
                          have fs17 : ∀ j, j ≠ 23 → s17_ j = s0 j := fun j hj => by rw [es17]; simp [updS, hj, fs16 j hj]
                          have fa17 : ∀ j, j ≠ 11 → a17_ j = a0 j := fun j hj => by rw [ea17]; simp [updA, hj, fa16 j hj]
                          have t17 : s17_ 23 = s16_ 23 + 1 := by rw [es17]; rfl
                          have x6_17 := fs17 6 (by omega)
                          have x4_17 : a17_ 4 = a0 4 := fa17 4 (by omega)
                          have x5_17 : a17_ 5 = a0 5 := fa17 5 (by omega)
                          have x12_17 : a17_ 12 = a0 12 := fa17 12 (by omega)
                          have x13_17 : a17_ 13 = a0 13 := fa17 13 (by omega)
                          have y4_17 : a17_ 4 i = a0 4 i := by rw [x4_17]
                          have y5_17 : a17_ 5 i = a0 5 i := by rw [x5_17]
                          have y13_17 : a17_ 13 i = a0 13 i := by rw [x13_17]
                          show pm_E _ _ _ 338 [(0, .ref 18), (1, .int (iI i)), (2, .int (iI ((a16_ 4) (i))))] [] _ _ _ _
                          refine pm_e_inc (y := iI (i + 1)) pm_a169_338 rfl (iI_add _ _) (by decide +kernel) rfl ?_
                          show pm_E _ _ _ 341 [(0, .ref 18), (1, .int (iI (i + 1))), (2, .int (iI ((a16_ 4) (i))))] [] _ _ _ _
                          refine pm_e_goto pm_a169_341 rfl ?_
                          show pm_E _ _ _ 151 [(0, .ref 18), (1, .int (iI (i + 1))), (2, .int (iI ((a16_ 4) (i))))] [] _ _ _ _
                          show pm_E _ _ _ 151 ([(0, .ref 18), (1, .int (iI (i + 1)))] ++ [(2, .int (iI ((a16_ 4) (i))))]) [] _ _ _ _
                          refine pm_e_more [(2, .int (iI ((a16_ 4) (i))))] (show ([0, 1, 2] : List Nat).Nodup from by decide) ?_
                          exact ih (i + 1) s17_ a17_ (by omega) (by omega) fs17 fa17 (by omega) (by omega) kk (by omega)
                        · skip
                          show pm_E _ _ _ 328 [(0, .ref 18), (1, .int (iI i)), (2, .int (iI ((a16_ 4) (i))))] [.ref 18] _ _ _ _
                          refine pm_e_sim pm_a169_328 rfl ?_
                          refine pm_e_top (y := iI 70) (by decide +kernel) ?_
                          show pm_E _ _ _ 330 [(0, .ref 18), (1, .int (iI i)), (2, .int (iI ((a16_ 4) (i))))] [.int (iI 70), .ref 18] _ _ _ _
                          refine pm_e_goto pm_a169_330 rfl ?_
                          show pm_E _ _ _ 335 [(0, .ref 18), (1, .int (iI i)), (2, .int (iI ((a16_ 4) (i))))] [.int (iI 70), .ref 18] _ _ _ _
                          refine pm_i_callv (k := 18) (T2 := pm_mm172) pm_a169_335 rfl rfl rfl (mh_get (j := 0) hA rfl) ⟨Nat.le_of_ble_eq_true rfl, Nat.le_of_ble_eq_true rfl, rfl, by decide +kernel⟩ ?_
                          show pm_E none _ _ 0 [(0, .ref 18), (1, .int (iI 70))] [] _ _ _ _
                          refine M_say hA (by omega) (by omega) ?_
                          obtain ⟨s18_, es18⟩ : ∃ z, z = updS s16_ 23 (s16_ 23 + 1) := ⟨_, rfl⟩
                          obtain ⟨a18_, ea18⟩ : ∃ z, z = updA a16_ 11 (updI (a16_ 11) (s16_ 23) (70)) := ⟨_, rfl⟩
                          rw [← es18, ← ea18]
                          have fs18 : ∀ j, j ≠ 23 → s18_ j = s0 j := fun j hj => by rw [es18]; simp [updS, hj, fs16 j hj]
                          have fa18 : ∀ j, j ≠ 11 → a18_ j = a0 j := fun j hj => by rw [ea18]; simp [updA, hj, fa16 j hj]
                          have t18 : s18_ 23 = s16_ 23 + 1 := by rw [es18]; rfl
                          have x6_18 := fs18 6 (by omega)
                          have x4_18 : a18_ 4 = a0 4 := fa18 4 (by omega)
                          have x5_18 : a18_ 5 = a0 5 := fa18 5 (by omega)
                          have x12_18 : a18_ 12 = a0 12 := fa18 12 (by omega)
                          have x13_18 : a18_ 13 = a0 13 := fa18 13 (by omega)
                          have y4_18 : a18_ 4 i = a0 4 i := by rw [x4_18]
                          have y5_18 : a18_ 5 i = a0 5 i := by rw [x5_18]
                          have y13_18 : a18_ 13 i = a0 13 i := by rw [x13_18]
                          show pm_E _ _ _ 338 [(0, .ref 18), (1, .int (iI i)), (2, .int (iI ((a16_ 4) (i))))] [] _ _ _ _
                          refine pm_e_inc (y := iI (i + 1)) pm_a169_338 rfl (iI_add _ _) (by decide +kernel) rfl ?_
                          show pm_E _ _ _ 341 [(0, .ref 18), (1, .int (iI (i + 1))), (2, .int (iI ((a16_ 4) (i))))] [] _ _ _ _
                          refine pm_e_goto pm_a169_341 rfl ?_
                          show pm_E _ _ _ 151 [(0, .ref 18), (1, .int (iI (i + 1))), (2, .int (iI ((a16_ 4) (i))))] [] _ _ _ _
                          show pm_E _ _ _ 151 ([(0, .ref 18), (1, .int (iI (i + 1)))] ++ [(2, .int (iI ((a16_ 4) (i))))]) [] _ _ _ _
                          refine pm_e_more [(2, .int (iI ((a16_ 4) (i))))] (show ([0, 1, 2] : List Nat).Nodup from by decide) ?_
                          exact ih (i + 1) s18_ a18_ (by omega) (by omega) fs18 fa18 (by omega) (by omega) kk (by omega)
                      · skip
                        show pm_E _ _ _ 318 [(0, .ref 18), (1, .int (iI i)), (2, .int (iI ((a16_ 4) (i))))] [.ref 18] _ _ _ _
                        refine pm_e_sim pm_a169_318 rfl ?_
                        refine pm_e_top (y := iI 73) (by decide +kernel) ?_
                        show pm_E _ _ _ 320 [(0, .ref 18), (1, .int (iI i)), (2, .int (iI ((a16_ 4) (i))))] [.int (iI 73), .ref 18] _ _ _ _
                        refine pm_e_goto pm_a169_320 rfl ?_
                        show pm_E _ _ _ 335 [(0, .ref 18), (1, .int (iI i)), (2, .int (iI ((a16_ 4) (i))))] [.int (iI 73), .ref 18] _ _ _ _
                        refine pm_i_callv (k := 18) (T2 := pm_mm172) pm_a169_335 rfl rfl rfl (mh_get (j := 0) hA rfl) ⟨Nat.le_of_ble_eq_true rfl, Nat.le_of_ble_eq_true rfl, rfl, by decide +kernel⟩ ?_
                        show pm_E none _ _ 0 [(0, .ref 18), (1, .int (iI 73))] [] _ _ _ _
                        refine M_say hA (by omega) (by omega) ?_
                        obtain ⟨s19_, es19⟩ : ∃ z, z = updS s16_ 23 (s16_ 23 + 1) := ⟨_, rfl⟩
                        obtain ⟨a19_, ea19⟩ : ∃ z, z = updA a16_ 11 (updI (a16_ 11) (s16_ 23) (73)) := ⟨_, rfl⟩
                        rw [← es19, ← ea19]
                        have fs19 : ∀ j, j ≠ 23 → s19_ j = s0 j := fun j hj => by rw [es19]; simp [updS, hj, fs16 j hj]
                        have fa19 : ∀ j, j ≠ 11 → a19_ j = a0 j := fun j hj => by rw [ea19]; simp [updA, hj, fa16 j hj]
                        have t19 : s19_ 23 = s16_ 23 + 1 := by rw [es19]; rfl
                        have x6_19 := fs19 6 (by omega)
                        have x4_19 : a19_ 4 = a0 4 := fa19 4 (by omega)
                        have x5_19 : a19_ 5 = a0 5 := fa19 5 (by omega)
                        have x12_19 : a19_ 12 = a0 12 := fa19 12 (by omega)
                        have x13_19 : a19_ 13 = a0 13 := fa19 13 (by omega)
                        have y4_19 : a19_ 4 i = a0 4 i := by rw [x4_19]
                        have y5_19 : a19_ 5 i = a0 5 i := by rw [x5_19]
                        have y13_19 : a19_ 13 i = a0 13 i := by rw [x13_19]
                        show pm_E _ _ _ 338 [(0, .ref 18), (1, .int (iI i)), (2, .int (iI ((a16_ 4) (i))))] [] _ _ _ _
                        refine pm_e_inc (y := iI (i + 1)) pm_a169_338 rfl (iI_add _ _) (by decide +kernel) rfl ?_
                        show pm_E _ _ _ 341 [(0, .ref 18), (1, .int (iI (i + 1))), (2, .int (iI ((a16_ 4) (i))))] [] _ _ _ _
                        refine pm_e_goto pm_a169_341 rfl ?_
                        show pm_E _ _ _ 151 [(0, .ref 18), (1, .int (iI (i + 1))), (2, .int (iI ((a16_ 4) (i))))] [] _ _ _ _
                        show pm_E _ _ _ 151 ([(0, .ref 18), (1, .int (iI (i + 1)))] ++ [(2, .int (iI ((a16_ 4) (i))))]) [] _ _ _ _
                        refine pm_e_more [(2, .int (iI ((a16_ 4) (i))))] (show ([0, 1, 2] : List Nat).Nodup from by decide) ?_
                        exact ih (i + 1) s19_ a19_ (by omega) (by omega) fs19 fa19 (by omega) (by omega) kk (by omega)
                    · skip
                      show pm_E _ _ _ 308 [(0, .ref 18), (1, .int (iI i)), (2, .int (iI ((a16_ 4) (i))))] [.ref 18] _ _ _ _
                      refine pm_e_sim pm_a169_308 rfl ?_
                      refine pm_e_top (y := iI 75) (by decide +kernel) ?_
                      show pm_E _ _ _ 310 [(0, .ref 18), (1, .int (iI i)), (2, .int (iI ((a16_ 4) (i))))] [.int (iI 75), .ref 18] _ _ _ _
                      refine pm_e_goto pm_a169_310 rfl ?_
                      show pm_E _ _ _ 335 [(0, .ref 18), (1, .int (iI i)), (2, .int (iI ((a16_ 4) (i))))] [.int (iI 75), .ref 18] _ _ _ _
                      refine pm_i_callv (k := 18) (T2 := pm_mm172) pm_a169_335 rfl rfl rfl (mh_get (j := 0) hA rfl) ⟨Nat.le_of_ble_eq_true rfl, Nat.le_of_ble_eq_true rfl, rfl, by decide +kernel⟩ ?_
                      show pm_E none _ _ 0 [(0, .ref 18), (1, .int (iI 75))] [] _ _ _ _
                      refine M_say hA (by omega) (by omega) ?_
                      obtain ⟨s20_, es20⟩ : ∃ z, z = updS s16_ 23 (s16_ 23 + 1) := ⟨_, rfl⟩
                      obtain ⟨a20_, ea20⟩ : ∃ z, z = updA a16_ 11 (updI (a16_ 11) (s16_ 23) (75)) := ⟨_, rfl⟩
                      rw [← es20, ← ea20]
                      have fs20 : ∀ j, j ≠ 23 → s20_ j = s0 j := fun j hj => by rw [es20]; simp [updS, hj, fs16 j hj]
                      have fa20 : ∀ j, j ≠ 11 → a20_ j = a0 j := fun j hj => by rw [ea20]; simp [updA, hj, fa16 j hj]
                      have t20 : s20_ 23 = s16_ 23 + 1 := by rw [es20]; rfl
                      have x6_20 := fs20 6 (by omega)
                      have x4_20 : a20_ 4 = a0 4 := fa20 4 (by omega)
                      have x5_20 : a20_ 5 = a0 5 := fa20 5 (by omega)
                      have x12_20 : a20_ 12 = a0 12 := fa20 12 (by omega)
                      have x13_20 : a20_ 13 = a0 13 := fa20 13 (by omega)
                      have y4_20 : a20_ 4 i = a0 4 i := by rw [x4_20]
                      have y5_20 : a20_ 5 i = a0 5 i := by rw [x5_20]
                      have y13_20 : a20_ 13 i = a0 13 i := by rw [x13_20]
                      show pm_E _ _ _ 338 [(0, .ref 18), (1, .int (iI i)), (2, .int (iI ((a16_ 4) (i))))] [] _ _ _ _
                      refine pm_e_inc (y := iI (i + 1)) pm_a169_338 rfl (iI_add _ _) (by decide +kernel) rfl ?_
                      show pm_E _ _ _ 341 [(0, .ref 18), (1, .int (iI (i + 1))), (2, .int (iI ((a16_ 4) (i))))] [] _ _ _ _
                      refine pm_e_goto pm_a169_341 rfl ?_
                      show pm_E _ _ _ 151 [(0, .ref 18), (1, .int (iI (i + 1))), (2, .int (iI ((a16_ 4) (i))))] [] _ _ _ _
                      show pm_E _ _ _ 151 ([(0, .ref 18), (1, .int (iI (i + 1)))] ++ [(2, .int (iI ((a16_ 4) (i))))]) [] _ _ _ _
                      refine pm_e_more [(2, .int (iI ((a16_ 4) (i))))] (show ([0, 1, 2] : List Nat).Nodup from by decide) ?_
                      exact ih (i + 1) s20_ a20_ (by omega) (by omega) fs20 fa20 (by omega) (by omega) kk (by omega)
                  · skip
                    show pm_E _ _ _ 298 [(0, .ref 18), (1, .int (iI i)), (2, .int (iI ((a16_ 4) (i))))] [.ref 18] _ _ _ _
                    refine pm_e_sim pm_a169_298 rfl ?_
                    refine pm_e_top (y := iI 83) (by decide +kernel) ?_
                    show pm_E _ _ _ 300 [(0, .ref 18), (1, .int (iI i)), (2, .int (iI ((a16_ 4) (i))))] [.int (iI 83), .ref 18] _ _ _ _
                    refine pm_e_goto pm_a169_300 rfl ?_
                    show pm_E _ _ _ 335 [(0, .ref 18), (1, .int (iI i)), (2, .int (iI ((a16_ 4) (i))))] [.int (iI 83), .ref 18] _ _ _ _
                    refine pm_i_callv (k := 18) (T2 := pm_mm172) pm_a169_335 rfl rfl rfl (mh_get (j := 0) hA rfl) ⟨Nat.le_of_ble_eq_true rfl, Nat.le_of_ble_eq_true rfl, rfl, by decide +kernel⟩ ?_
                    show pm_E none _ _ 0 [(0, .ref 18), (1, .int (iI 83))] [] _ _ _ _
                    refine M_say hA (by omega) (by omega) ?_
                    obtain ⟨s21_, es21⟩ : ∃ z, z = updS s16_ 23 (s16_ 23 + 1) := ⟨_, rfl⟩
                    obtain ⟨a21_, ea21⟩ : ∃ z, z = updA a16_ 11 (updI (a16_ 11) (s16_ 23) (83)) := ⟨_, rfl⟩
                    rw [← es21, ← ea21]
                    have fs21 : ∀ j, j ≠ 23 → s21_ j = s0 j := fun j hj => by rw [es21]; simp [updS, hj, fs16 j hj]
                    have fa21 : ∀ j, j ≠ 11 → a21_ j = a0 j := fun j hj => by rw [ea21]; simp [updA, hj, fa16 j hj]
                    have t21 : s21_ 23 = s16_ 23 + 1 := by rw [es21]; rfl
                    have x6_21 := fs21 6 (by omega)
                    have x4_21 : a21_ 4 = a0 4 := fa21 4 (by omega)
                    have x5_21 : a21_ 5 = a0 5 := fa21 5 (by omega)
                    have x12_21 : a21_ 12 = a0 12 := fa21 12 (by omega)
                    have x13_21 : a21_ 13 = a0 13 := fa21 13 (by omega)
                    have y4_21 : a21_ 4 i = a0 4 i := by rw [x4_21]
                    have y5_21 : a21_ 5 i = a0 5 i := by rw [x5_21]
                    have y13_21 : a21_ 13 i = a0 13 i := by rw [x13_21]
                    show pm_E _ _ _ 338 [(0, .ref 18), (1, .int (iI i)), (2, .int (iI ((a16_ 4) (i))))] [] _ _ _ _
                    refine pm_e_inc (y := iI (i + 1)) pm_a169_338 rfl (iI_add _ _) (by decide +kernel) rfl ?_
                    show pm_E _ _ _ 341 [(0, .ref 18), (1, .int (iI (i + 1))), (2, .int (iI ((a16_ 4) (i))))] [] _ _ _ _
                    refine pm_e_goto pm_a169_341 rfl ?_
                    show pm_E _ _ _ 151 [(0, .ref 18), (1, .int (iI (i + 1))), (2, .int (iI ((a16_ 4) (i))))] [] _ _ _ _
                    show pm_E _ _ _ 151 ([(0, .ref 18), (1, .int (iI (i + 1)))] ++ [(2, .int (iI ((a16_ 4) (i))))]) [] _ _ _ _
                    refine pm_e_more [(2, .int (iI ((a16_ 4) (i))))] (show ([0, 1, 2] : List Nat).Nodup from by decide) ?_
                    exact ih (i + 1) s21_ a21_ (by omega) (by omega) fs21 fa21 (by omega) (by omega) kk (by omega)
              · skip
                show pm_E _ _ _ 268 [(0, .ref 18), (1, .int (iI i)), (2, .int (iI ((a16_ 4) (i))))] [] _ _ _ _
                refine pm_e_sim pm_a169_268 rfl ?_
                show pm_E _ _ _ 269 [(0, .ref 18), (1, .int (iI i)), (2, .int (iI ((a16_ 4) (i))))] [.ref 18] _ _ _ _
                refine pm_e_sim pm_a169_269 rfl ?_
                show pm_E _ _ _ 270 [(0, .ref 18), (1, .int (iI i)), (2, .int (iI ((a16_ 4) (i))))] [.ref 18, .ref 18] _ _ _ _
                refine pm_i_get pm_a169_270 rfl (mh_get (j := 0) hA rfl) rfl ?_
                show pm_E _ _ _ 273 [(0, .ref 18), (1, .int (iI i)), (2, .int (iI ((a16_ 4) (i))))] [.ref 23, .ref 18] _ _ _ _
                refine pm_e_sim pm_a169_273 rfl ?_
                show pm_E _ _ _ 274 [(0, .ref 18), (1, .int (iI i)), (2, .int (iI ((a16_ 4) (i))))] [.int (iI i), .ref 23, .ref 18] _ _ _ _
                refine pm_i_ald pm_a169_274 (mh_get (j := 5) hA rfl) (by omega) (by omega) ⟨by omega, by omega⟩ ?_
                show pm_E _ _ _ 275 [(0, .ref 18), (1, .int (iI i)), (2, .int (iI ((a16_ 4) (i))))] [.int (iI ((a16_ 5) (i))), .ref 18] _ _ _ _
                refine pm_e_sim pm_a169_275 rfl ?_
                refine pm_e_top (y := iI 1) (by decide +kernel) ?_
                show pm_E _ _ _ 276 [(0, .ref 18), (1, .int (iI i)), (2, .int (iI ((a16_ 4) (i))))] [.int (iI 1), .int (iI ((a16_ 5) (i))), .ref 18] _ _ _ _
                refine pm_e_sim pm_a169_276 rfl ?_
                refine pm_e_top (y := iI ((a16_ 5) (i) - 1)) (iI_sub _ _) ?_
                show pm_E _ _ _ 277 [(0, .ref 18), (1, .int (iI i)), (2, .int (iI ((a16_ 4) (i))))] [.int (iI ((a16_ 5) (i) - 1)), .ref 18] _ _ _ _
                refine pm_e_sim pm_a169_277 rfl ?_
                show pm_E _ _ _ 278 [(0, .ref 18), (1, .int (iI i)), (2, .int (iI ((a16_ 4) (i))))] [.int (iI ((a16_ 4) (i))), .int (iI ((a16_ 5) (i) - 1)), .ref 18] _ _ _ _
                refine pm_e_sim pm_a169_278 rfl ?_
                refine pm_e_top (y := iI 10) (by decide +kernel) ?_
                show pm_E _ _ _ 280 [(0, .ref 18), (1, .int (iI i)), (2, .int (iI ((a16_ 4) (i))))] [.int (iI 10), .int (iI ((a16_ 4) (i))), .int (iI ((a16_ 5) (i) - 1)), .ref 18] _ _ _ _
                refine pm_e_sim pm_a169_280 rfl ?_
                refine pm_e_top (y := iI ((a16_ 4) (i) - 10)) (iI_sub _ _) ?_
                show pm_E _ _ _ 281 [(0, .ref 18), (1, .int (iI i)), (2, .int (iI ((a16_ 4) (i))))] [.int (iI ((a16_ 4) (i) - 10)), .int (iI ((a16_ 5) (i) - 1)), .ref 18] _ _ _ _
                refine pm_e_sim pm_a169_281 rfl ?_
                refine pm_e_top (y := iI ((a16_ 5) (i) - 1 - ((a16_ 4) (i) - 10))) (iI_sub _ _) ?_
                show pm_E _ _ _ 282 [(0, .ref 18), (1, .int (iI i)), (2, .int (iI ((a16_ 4) (i))))] [.int (iI ((a16_ 5) (i) - 1 - ((a16_ 4) (i) - 10))), .ref 18] _ _ _ _
                refine pm_i_callv (k := 18) (T2 := pm_mm173) pm_a169_282 rfl rfl rfl (mh_get (j := 0) hA rfl) ⟨Nat.le_of_ble_eq_true rfl, Nat.le_of_ble_eq_true rfl, rfl, by decide +kernel⟩ ?_
                show pm_E none _ _ 0 [(0, .ref 18), (1, .int (iI ((a16_ 5) (i) - 1 - ((a16_ 4) (i) - 10))))] [] _ _ _ _
                refine M_sayName hA ⟨by omega, by omega⟩ (by omega) (by omega) (fun s22_ a22_ gs22 ga22 t22 u22 => ?_)
                have fs22 : ∀ j, j ≠ 23 → s22_ j = s0 j := fun j hj => by rw [gs22 j hj]; exact fs16 j hj
                have fa22 : ∀ j, j ≠ 11 → a22_ j = a0 j := fun j hj => by rw [ga22 j hj]; exact fa16 j hj
                show pm_E _ _ _ 285 [(0, .ref 18), (1, .int (iI i)), (2, .int (iI ((a16_ 4) (i))))] [] _ _ _ _
                refine pm_e_goto pm_a169_285 rfl ?_
                show pm_E _ _ _ 338 [(0, .ref 18), (1, .int (iI i)), (2, .int (iI ((a16_ 4) (i))))] [] _ _ _ _
                refine pm_e_inc (y := iI (i + 1)) pm_a169_338 rfl (iI_add _ _) (by decide +kernel) rfl ?_
                show pm_E _ _ _ 341 [(0, .ref 18), (1, .int (iI (i + 1))), (2, .int (iI ((a16_ 4) (i))))] [] _ _ _ _
                refine pm_e_goto pm_a169_341 rfl ?_
                show pm_E _ _ _ 151 [(0, .ref 18), (1, .int (iI (i + 1))), (2, .int (iI ((a16_ 4) (i))))] [] _ _ _ _
                show pm_E _ _ _ 151 ([(0, .ref 18), (1, .int (iI (i + 1)))] ++ [(2, .int (iI ((a16_ 4) (i))))]) [] _ _ _ _
                refine pm_e_more [(2, .int (iI ((a16_ 4) (i))))] (show ([0, 1, 2] : List Nat).Nodup from by decide) ?_
                exact ih (i + 1) s22_ a22_ (by omega) (by omega) fs22 fa22 (by omega) (by omega) kk (by omega)
            · skip
              show pm_E _ _ _ 237 [(0, .ref 18), (1, .int (iI i)), (2, .int (iI ((a16_ 4) (i))))] [] _ _ _ _
              refine pm_e_sim pm_a169_237 rfl ?_
              show pm_E _ _ _ 238 [(0, .ref 18), (1, .int (iI i)), (2, .int (iI ((a16_ 4) (i))))] [.ref 18] _ _ _ _
              refine pm_e_sim pm_a169_238 rfl ?_
              refine pm_e_top (y := iI 92) (by decide +kernel) ?_
              show pm_E _ _ _ 240 [(0, .ref 18), (1, .int (iI i)), (2, .int (iI ((a16_ 4) (i))))] [.int (iI 92), .ref 18] _ _ _ _
              refine pm_i_callv (k := 18) (T2 := pm_mm172) pm_a169_240 rfl rfl rfl (mh_get (j := 0) hA rfl) ⟨Nat.le_of_ble_eq_true rfl, Nat.le_of_ble_eq_true rfl, rfl, by decide +kernel⟩ ?_
              show pm_E none _ _ 0 [(0, .ref 18), (1, .int (iI 92))] [] _ _ _ _
              refine M_say hA (by omega) (by omega) ?_
              obtain ⟨s23_, es23⟩ : ∃ z, z = updS s16_ 23 (s16_ 23 + 1) := ⟨_, rfl⟩
              obtain ⟨a23_, ea23⟩ : ∃ z, z = updA a16_ 11 (updI (a16_ 11) (s16_ 23) (92)) := ⟨_, rfl⟩
              rw [← es23, ← ea23]
              have fs23 : ∀ j, j ≠ 23 → s23_ j = s0 j := fun j hj => by rw [es23]; simp [updS, hj, fs16 j hj]
              have fa23 : ∀ j, j ≠ 11 → a23_ j = a0 j := fun j hj => by rw [ea23]; simp [updA, hj, fa16 j hj]
              have t23 : s23_ 23 = s16_ 23 + 1 := by rw [es23]; rfl
              have x6_23 := fs23 6 (by omega)
              have x4_23 : a23_ 4 = a0 4 := fa23 4 (by omega)
              have x5_23 : a23_ 5 = a0 5 := fa23 5 (by omega)
              have x12_23 : a23_ 12 = a0 12 := fa23 12 (by omega)
              have x13_23 : a23_ 13 = a0 13 := fa23 13 (by omega)
              have y4_23 : a23_ 4 i = a0 4 i := by rw [x4_23]
              have y5_23 : a23_ 5 i = a0 5 i := by rw [x5_23]
              have y13_23 : a23_ 13 i = a0 13 i := by rw [x13_23]
              show pm_E _ _ _ 243 [(0, .ref 18), (1, .int (iI i)), (2, .int (iI ((a16_ 4) (i))))] [] _ _ _ _
              refine pm_e_sim pm_a169_243 rfl ?_
              show pm_E _ _ _ 244 [(0, .ref 18), (1, .int (iI i)), (2, .int (iI ((a16_ 4) (i))))] [.ref 18] _ _ _ _
              refine pm_e_sim pm_a169_244 rfl ?_
              show pm_E _ _ _ 245 [(0, .ref 18), (1, .int (iI i)), (2, .int (iI ((a16_ 4) (i))))] [.ref 18, .ref 18] _ _ _ _
              refine pm_i_get pm_a169_245 rfl (mh_get (j := 0) hA rfl) rfl ?_
              show pm_E _ _ _ 248 [(0, .ref 18), (1, .int (iI i)), (2, .int (iI ((a16_ 4) (i))))] [.ref 23, .ref 18] _ _ _ _
              refine pm_e_sim pm_a169_248 rfl ?_
              show pm_E _ _ _ 249 [(0, .ref 18), (1, .int (iI i)), (2, .int (iI ((a16_ 4) (i))))] [.int (iI i), .ref 23, .ref 18] _ _ _ _
              refine pm_i_ald pm_a169_249 (mh_get (j := 5) hA rfl) (by omega) (by omega) ⟨by omega, by omega⟩ ?_
              show pm_E _ _ _ 250 [(0, .ref 18), (1, .int (iI i)), (2, .int (iI ((a16_ 4) (i))))] [.int (iI ((a23_ 5) (i))), .ref 18] _ _ _ _
              refine pm_i_callv (k := 18) (T2 := pm_mm173) pm_a169_250 rfl rfl rfl (mh_get (j := 0) hA rfl) ⟨Nat.le_of_ble_eq_true rfl, Nat.le_of_ble_eq_true rfl, rfl, by decide +kernel⟩ ?_
              show pm_E none _ _ 0 [(0, .ref 18), (1, .int (iI ((a23_ 5) (i))))] [] _ _ _ _
              refine M_sayName hA ⟨by omega, by omega⟩ (by omega) (by omega) (fun s24_ a24_ gs24 ga24 t24 u24 => ?_)
              have fs24 : ∀ j, j ≠ 23 → s24_ j = s0 j := fun j hj => by rw [gs24 j hj]; exact fs23 j hj
              have fa24 : ∀ j, j ≠ 11 → a24_ j = a0 j := fun j hj => by rw [ga24 j hj]; exact fa23 j hj
              show pm_E _ _ _ 253 [(0, .ref 18), (1, .int (iI i)), (2, .int (iI ((a16_ 4) (i))))] [] _ _ _ _
              refine pm_e_sim pm_a169_253 rfl ?_
              show pm_E _ _ _ 254 [(0, .ref 18), (1, .int (iI i)), (2, .int (iI ((a16_ 4) (i))))] [.ref 18] _ _ _ _
              refine pm_e_sim pm_a169_254 rfl ?_
              refine pm_e_top (y := iI 46) (by decide +kernel) ?_
              show pm_E _ _ _ 256 [(0, .ref 18), (1, .int (iI i)), (2, .int (iI ((a16_ 4) (i))))] [.int (iI 46), .ref 18] _ _ _ _
              refine pm_i_callv (k := 18) (T2 := pm_mm172) pm_a169_256 rfl rfl rfl (mh_get (j := 0) hA rfl) ⟨Nat.le_of_ble_eq_true rfl, Nat.le_of_ble_eq_true rfl, rfl, by decide +kernel⟩ ?_
              show pm_E none _ _ 0 [(0, .ref 18), (1, .int (iI 46))] [] _ _ _ _
              refine M_say hA (by omega) (by omega) ?_
              obtain ⟨s25_, es25⟩ : ∃ z, z = updS s24_ 23 (s24_ 23 + 1) := ⟨_, rfl⟩
              obtain ⟨a25_, ea25⟩ : ∃ z, z = updA a24_ 11 (updI (a24_ 11) (s24_ 23) (46)) := ⟨_, rfl⟩
              rw [← es25, ← ea25]
              have fs25 : ∀ j, j ≠ 23 → s25_ j = s0 j := fun j hj => by rw [es25]; simp [updS, hj, fs24 j hj]
              have fa25 : ∀ j, j ≠ 11 → a25_ j = a0 j := fun j hj => by rw [ea25]; simp [updA, hj, fa24 j hj]
              have t25 : s25_ 23 = s24_ 23 + 1 := by rw [es25]; rfl
              have x6_25 := fs25 6 (by omega)
              have x4_25 : a25_ 4 = a0 4 := fa25 4 (by omega)
              have x5_25 : a25_ 5 = a0 5 := fa25 5 (by omega)
              have x12_25 : a25_ 12 = a0 12 := fa25 12 (by omega)
              have x13_25 : a25_ 13 = a0 13 := fa25 13 (by omega)
              have y4_25 : a25_ 4 i = a0 4 i := by rw [x4_25]
              have y5_25 : a25_ 5 i = a0 5 i := by rw [x5_25]
              have y13_25 : a25_ 13 i = a0 13 i := by rw [x13_25]
              show pm_E _ _ _ 259 [(0, .ref 18), (1, .int (iI i)), (2, .int (iI ((a16_ 4) (i))))] [] _ _ _ _
              refine pm_e_goto pm_a169_259 rfl ?_
              show pm_E _ _ _ 338 [(0, .ref 18), (1, .int (iI i)), (2, .int (iI ((a16_ 4) (i))))] [] _ _ _ _
              refine pm_e_inc (y := iI (i + 1)) pm_a169_338 rfl (iI_add _ _) (by decide +kernel) rfl ?_
              show pm_E _ _ _ 341 [(0, .ref 18), (1, .int (iI (i + 1))), (2, .int (iI ((a16_ 4) (i))))] [] _ _ _ _
              refine pm_e_goto pm_a169_341 rfl ?_
              show pm_E _ _ _ 151 [(0, .ref 18), (1, .int (iI (i + 1))), (2, .int (iI ((a16_ 4) (i))))] [] _ _ _ _
              show pm_E _ _ _ 151 ([(0, .ref 18), (1, .int (iI (i + 1)))] ++ [(2, .int (iI ((a16_ 4) (i))))]) [] _ _ _ _
              refine pm_e_more [(2, .int (iI ((a16_ 4) (i))))] (show ([0, 1, 2] : List Nat).Nodup from by decide) ?_
              exact ih (i + 1) s25_ a25_ (by omega) (by omega) fs25 fa25 (by omega) (by omega) kk (by omega)
      · skip
        show pm_E _ _ _ 192 [(0, .ref 18), (1, .int (iI i)), (2, .int (iI (k')))] [] _ _ _ _
        refine pm_e_sim pm_a169_192 rfl ?_
        show pm_E _ _ _ 193 [(0, .ref 18), (1, .int (iI i)), (2, .int (iI (k')))] [.ref 18] _ _ _ _
        refine pm_e_sim pm_a169_193 rfl ?_
        refine pm_e_top (y := iI 32) (by decide +kernel) ?_
        show pm_E _ _ _ 195 [(0, .ref 18), (1, .int (iI i)), (2, .int (iI (k')))] [.int (iI 32), .ref 18] _ _ _ _
        refine pm_i_callv (k := 18) (T2 := pm_mm172) pm_a169_195 rfl rfl rfl (mh_get (j := 0) hA rfl) ⟨Nat.le_of_ble_eq_true rfl, Nat.le_of_ble_eq_true rfl, rfl, by decide +kernel⟩ ?_
        show pm_E none _ _ 0 [(0, .ref 18), (1, .int (iI 32))] [] _ _ _ _
        refine M_say hA (by omega) (by omega) ?_
        obtain ⟨s26_, es26⟩ : ∃ z, z = updS s 23 (s 23 + 1) := ⟨_, rfl⟩
        obtain ⟨a26_, ea26⟩ : ∃ z, z = updA a 11 (updI (a 11) (s 23) (32)) := ⟨_, rfl⟩
        rw [← es26, ← ea26]
        have fs26 : ∀ j, j ≠ 23 → s26_ j = s0 j := fun j hj => by rw [es26]; simp [updS, hj, fS j hj]
        have fa26 : ∀ j, j ≠ 11 → a26_ j = a0 j := fun j hj => by rw [ea26]; simp [updA, hj, fA j hj]
        have t26 : s26_ 23 = s 23 + 1 := by rw [es26]; rfl
        have x6_26 := fs26 6 (by omega)
        have x4_26 : a26_ 4 = a0 4 := fa26 4 (by omega)
        have x5_26 : a26_ 5 = a0 5 := fa26 5 (by omega)
        have x12_26 : a26_ 12 = a0 12 := fa26 12 (by omega)
        have x13_26 : a26_ 13 = a0 13 := fa26 13 (by omega)
        have y4_26 : a26_ 4 i = a0 4 i := by rw [x4_26]
        have y5_26 : a26_ 5 i = a0 5 i := by rw [x5_26]
        have y13_26 : a26_ 13 i = a0 13 i := by rw [x13_26]
        show pm_E _ _ _ 198 [(0, .ref 18), (1, .int (iI i)), (2, .int (iI (k')))] [] _ _ _ _
        refine pm_e_sim pm_a169_198 rfl ?_
        show pm_E _ _ _ 199 [(0, .ref 18), (1, .int (iI i)), (2, .int (iI (k')))] [.ref 18] _ _ _ _
        refine pm_i_get pm_a169_199 rfl (mh_get (j := 0) hA rfl) rfl ?_
        show pm_E _ _ _ 202 [(0, .ref 18), (1, .int (iI i)), (2, .int (iI (k')))] [.ref 31] _ _ _ _
        refine pm_e_sim pm_a169_202 rfl ?_
        show pm_E _ _ _ 203 [(0, .ref 18), (1, .int (iI i)), (2, .int (iI (k')))] [.int (iI i), .ref 31] _ _ _ _
        refine pm_i_bld pm_a169_203 (mh_get (j := 13) hA rfl) (by omega) (by omega) ⟨by omega, by omega⟩ ?_
        show pm_E _ _ _ 204 [(0, .ref 18), (1, .int (iI i)), (2, .int (iI (k')))] [.int (iI ((a26_ 13) (i)))] _ _ _ _
        refine pm_i_eq (t := 213) pm_a169_204 rfl ⟨by omega, by omega⟩ (fun h_319 => ?_) (fun h_319 => ?_)
        · skip
          show pm_E _ _ _ 213 [(0, .ref 18), (1, .int (iI i)), (2, .int (iI (k')))] [] _ _ _ _
          refine pm_e_sim pm_a169_213 rfl ?_
          show pm_E _ _ _ 214 [(0, .ref 18), (1, .int (iI i)), (2, .int (iI (k')))] [.int (iI i)] _ _ _ _
          refine pm_e_sim pm_a169_214 rfl ?_
          show pm_E _ _ _ 215 [(0, .ref 18), (1, .int (iI i)), (2, .int (iI (k')))] [.ref 18, .int (iI i)] _ _ _ _
          refine pm_i_get pm_a169_215 rfl (mh_get (j := 0) hA rfl) rfl ?_
          show pm_E _ _ _ 218 [(0, .ref 18), (1, .int (iI i)), (2, .int (iI (k')))] [.int (iI (s26_ 6)), .int (iI i)] _ _ _ _
          refine pm_c_ge (t := 230) pm_a169_218 rfl ⟨by omega, by omega⟩ ⟨by omega, by omega⟩ (fun h_320 => ?_) (fun h_320 => ?_)
          · skip
            show pm_E _ _ _ 230 [(0, .ref 18), (1, .int (iI i)), (2, .int (iI (k')))] [] _ _ _ _
            refine pm_e_sim pm_a169_230 rfl ?_
            refine pm_e_top (y := iI 0) (by decide +kernel) ?_
            show pm_E _ _ _ 231 [(0, .ref 18), (1, .int (iI i)), (2, .int (iI (k')))] [.int (iI 0)] _ _ _ _
            refine pm_e_sim pm_a169_231 rfl ?_
            show pm_E _ _ _ 232 [(0, .ref 18), (1, .int (iI i)), (2, .int (iI 0))] [] _ _ _ _
            refine pm_e_sim pm_a169_232 rfl ?_
            show pm_E _ _ _ 233 [(0, .ref 18), (1, .int (iI i)), (2, .int (iI 0))] [.int (iI 0)] _ _ _ _
            refine pm_e_sim pm_a169_233 rfl ?_
            refine pm_e_top (y := iI 1) (by decide +kernel) ?_
            show pm_E _ _ _ 234 [(0, .ref 18), (1, .int (iI i)), (2, .int (iI 0))] [.int (iI 1), .int (iI 0)] _ _ _ _
            refine pm_e_ict pm_a169_234 rfl (by decide +kernel) ?_
            show pm_E _ _ _ 262 [(0, .ref 18), (1, .int (iI i)), (2, .int (iI 0))] [] _ _ _ _
            refine pm_e_sim pm_a169_262 rfl ?_
            show pm_E _ _ _ 263 [(0, .ref 18), (1, .int (iI i)), (2, .int (iI 0))] [.int (iI 0)] _ _ _ _
            refine pm_e_sim pm_a169_263 rfl ?_
            refine pm_e_top (y := iI 9) (by decide +kernel) ?_
            show pm_E _ _ _ 265 [(0, .ref 18), (1, .int (iI i)), (2, .int (iI 0))] [.int (iI 9), .int (iI 0)] _ _ _ _
            refine pm_e_ict pm_a169_265 rfl (by decide +kernel) ?_
            show pm_E _ _ _ 288 [(0, .ref 18), (1, .int (iI i)), (2, .int (iI 0))] [] _ _ _ _
            refine pm_e_sim pm_a169_288 rfl ?_
            show pm_E _ _ _ 289 [(0, .ref 18), (1, .int (iI i)), (2, .int (iI 0))] [.int (iI 0)] _ _ _ _
            refine pm_e_ift pm_a169_289 rfl (by decide +kernel) ?_
            show pm_E _ _ _ 338 [(0, .ref 18), (1, .int (iI i)), (2, .int (iI 0))] [] _ _ _ _
            refine pm_e_inc (y := iI (i + 1)) pm_a169_338 rfl (iI_add _ _) (by decide +kernel) rfl ?_
            show pm_E _ _ _ 341 [(0, .ref 18), (1, .int (iI (i + 1))), (2, .int (iI 0))] [] _ _ _ _
            refine pm_e_goto pm_a169_341 rfl ?_
            show pm_E _ _ _ 151 [(0, .ref 18), (1, .int (iI (i + 1))), (2, .int (iI 0))] [] _ _ _ _
            show pm_E _ _ _ 151 ([(0, .ref 18), (1, .int (iI (i + 1)))] ++ [(2, .int (iI 0))]) [] _ _ _ _
            refine pm_e_more [(2, .int (iI 0))] (show ([0, 1, 2] : List Nat).Nodup from by decide) ?_
            exact ih (i + 1) s26_ a26_ (by omega) (by omega) fs26 fa26 (by omega) (by omega) kk (by omega)
          · skip
            show pm_E _ _ _ 221 [(0, .ref 18), (1, .int (iI i)), (2, .int (iI (k')))] [] _ _ _ _
            refine pm_e_sim pm_a169_221 rfl ?_
            show pm_E _ _ _ 222 [(0, .ref 18), (1, .int (iI i)), (2, .int (iI (k')))] [.ref 18] _ _ _ _
            refine pm_i_get pm_a169_222 rfl (mh_get (j := 0) hA rfl) rfl ?_
            show pm_E _ _ _ 225 [(0, .ref 18), (1, .int (iI i)), (2, .int (iI (k')))] [.ref 22] _ _ _ _
            refine pm_e_sim pm_a169_225 rfl ?_
            show pm_E _ _ _ 226 [(0, .ref 18), (1, .int (iI i)), (2, .int (iI (k')))] [.int (iI i), .ref 22] _ _ _ _
            refine pm_i_ald pm_a169_226 (mh_get (j := 4) hA rfl) (by omega) (by omega) ⟨by omega, by omega⟩ ?_
            show pm_E _ _ _ 227 [(0, .ref 18), (1, .int (iI i)), (2, .int (iI (k')))] [.int (iI ((a26_ 4) (i)))] _ _ _ _
            refine pm_e_goto pm_a169_227 rfl ?_
            show pm_E _ _ _ 231 [(0, .ref 18), (1, .int (iI i)), (2, .int (iI (k')))] [.int (iI ((a26_ 4) (i)))] _ _ _ _
            refine pm_e_sim pm_a169_231 rfl ?_
            show pm_E _ _ _ 232 [(0, .ref 18), (1, .int (iI i)), (2, .int (iI ((a26_ 4) (i))))] [] _ _ _ _
            refine pm_e_sim pm_a169_232 rfl ?_
            show pm_E _ _ _ 233 [(0, .ref 18), (1, .int (iI i)), (2, .int (iI ((a26_ 4) (i))))] [.int (iI ((a26_ 4) (i)))] _ _ _ _
            refine pm_e_sim pm_a169_233 rfl ?_
            refine pm_e_top (y := iI 1) (by decide +kernel) ?_
            show pm_E _ _ _ 234 [(0, .ref 18), (1, .int (iI i)), (2, .int (iI ((a26_ 4) (i))))] [.int (iI 1), .int (iI ((a26_ 4) (i)))] _ _ _ _
            refine pm_c_ne (t := 262) pm_a169_234 rfl ⟨by omega, by omega⟩ ⟨by omega, by omega⟩ (fun h_321 => ?_) (fun h_321 => ?_)
            · skip
              show pm_E _ _ _ 262 [(0, .ref 18), (1, .int (iI i)), (2, .int (iI ((a26_ 4) (i))))] [] _ _ _ _
              refine pm_e_sim pm_a169_262 rfl ?_
              show pm_E _ _ _ 263 [(0, .ref 18), (1, .int (iI i)), (2, .int (iI ((a26_ 4) (i))))] [.int (iI ((a26_ 4) (i)))] _ _ _ _
              refine pm_e_sim pm_a169_263 rfl ?_
              refine pm_e_top (y := iI 9) (by decide +kernel) ?_
              show pm_E _ _ _ 265 [(0, .ref 18), (1, .int (iI i)), (2, .int (iI ((a26_ 4) (i))))] [.int (iI 9), .int (iI ((a26_ 4) (i)))] _ _ _ _
              refine pm_c_le (t := 288) pm_a169_265 rfl ⟨by omega, by omega⟩ ⟨by omega, by omega⟩ (fun h_322 => ?_) (fun h_322 => ?_)
              · skip
                show pm_E _ _ _ 288 [(0, .ref 18), (1, .int (iI i)), (2, .int (iI ((a26_ 4) (i))))] [] _ _ _ _
                refine pm_e_sim pm_a169_288 rfl ?_
                show pm_E _ _ _ 289 [(0, .ref 18), (1, .int (iI i)), (2, .int (iI ((a26_ 4) (i))))] [.int (iI ((a26_ 4) (i)))] _ _ _ _
                refine pm_i_eq (t := 338) pm_a169_289 rfl ⟨by omega, by omega⟩ (fun h_323 => ?_) (fun h_323 => ?_)
                · skip
                  show pm_E _ _ _ 338 [(0, .ref 18), (1, .int (iI i)), (2, .int (iI ((a26_ 4) (i))))] [] _ _ _ _
                  refine pm_e_inc (y := iI (i + 1)) pm_a169_338 rfl (iI_add _ _) (by decide +kernel) rfl ?_
                  show pm_E _ _ _ 341 [(0, .ref 18), (1, .int (iI (i + 1))), (2, .int (iI ((a26_ 4) (i))))] [] _ _ _ _
                  refine pm_e_goto pm_a169_341 rfl ?_
                  show pm_E _ _ _ 151 [(0, .ref 18), (1, .int (iI (i + 1))), (2, .int (iI ((a26_ 4) (i))))] [] _ _ _ _
                  show pm_E _ _ _ 151 ([(0, .ref 18), (1, .int (iI (i + 1)))] ++ [(2, .int (iI ((a26_ 4) (i))))]) [] _ _ _ _
                  refine pm_e_more [(2, .int (iI ((a26_ 4) (i))))] (show ([0, 1, 2] : List Nat).Nodup from by decide) ?_
                  exact ih (i + 1) s26_ a26_ (by omega) (by omega) fs26 fa26 (by omega) (by omega) kk (by omega)
                · skip
                  show pm_E _ _ _ 292 [(0, .ref 18), (1, .int (iI i)), (2, .int (iI ((a26_ 4) (i))))] [] _ _ _ _
                  refine pm_e_sim pm_a169_292 rfl ?_
                  show pm_E _ _ _ 293 [(0, .ref 18), (1, .int (iI i)), (2, .int (iI ((a26_ 4) (i))))] [.ref 18] _ _ _ _
                  refine pm_e_sim pm_a169_293 rfl ?_
                  show pm_E _ _ _ 294 [(0, .ref 18), (1, .int (iI i)), (2, .int (iI ((a26_ 4) (i))))] [.int (iI ((a26_ 4) (i))), .ref 18] _ _ _ _
                  refine pm_e_sim pm_a169_294 rfl ?_
                  refine pm_e_top (y := iI 2) (by decide +kernel) ?_
                  show pm_E _ _ _ 295 [(0, .ref 18), (1, .int (iI i)), (2, .int (iI ((a26_ 4) (i))))] [.int (iI 2), .int (iI ((a26_ 4) (i))), .ref 18] _ _ _ _
                  refine pm_c_ne (t := 303) pm_a169_295 rfl ⟨by omega, by omega⟩ ⟨by omega, by omega⟩ (fun h_324 => ?_) (fun h_324 => ?_)
                  · skip
                    show pm_E _ _ _ 303 [(0, .ref 18), (1, .int (iI i)), (2, .int (iI ((a26_ 4) (i))))] [.ref 18] _ _ _ _
                    refine pm_e_sim pm_a169_303 rfl ?_
                    show pm_E _ _ _ 304 [(0, .ref 18), (1, .int (iI i)), (2, .int (iI ((a26_ 4) (i))))] [.int (iI ((a26_ 4) (i))), .ref 18] _ _ _ _
                    refine pm_e_sim pm_a169_304 rfl ?_
                    refine pm_e_top (y := iI 3) (by decide +kernel) ?_
                    show pm_E _ _ _ 305 [(0, .ref 18), (1, .int (iI i)), (2, .int (iI ((a26_ 4) (i))))] [.int (iI 3), .int (iI ((a26_ 4) (i))), .ref 18] _ _ _ _
                    refine pm_c_ne (t := 313) pm_a169_305 rfl ⟨by omega, by omega⟩ ⟨by omega, by omega⟩ (fun h_325 => ?_) (fun h_325 => ?_)
                    · skip
                      show pm_E _ _ _ 313 [(0, .ref 18), (1, .int (iI i)), (2, .int (iI ((a26_ 4) (i))))] [.ref 18] _ _ _ _
                      refine pm_e_sim pm_a169_313 rfl ?_
                      show pm_E _ _ _ 314 [(0, .ref 18), (1, .int (iI i)), (2, .int (iI ((a26_ 4) (i))))] [.int (iI ((a26_ 4) (i))), .ref 18] _ _ _ _
                      refine pm_e_sim pm_a169_314 rfl ?_
                      refine pm_e_top (y := iI 4) (by decide +kernel) ?_
                      show pm_E _ _ _ 315 [(0, .ref 18), (1, .int (iI i)), (2, .int (iI ((a26_ 4) (i))))] [.int (iI 4), .int (iI ((a26_ 4) (i))), .ref 18] _ _ _ _
                      refine pm_c_ne (t := 323) pm_a169_315 rfl ⟨by omega, by omega⟩ ⟨by omega, by omega⟩ (fun h_326 => ?_) (fun h_326 => ?_)
                      · skip
                        show pm_E _ _ _ 323 [(0, .ref 18), (1, .int (iI i)), (2, .int (iI ((a26_ 4) (i))))] [.ref 18] _ _ _ _
                        refine pm_e_sim pm_a169_323 rfl ?_
                        show pm_E _ _ _ 324 [(0, .ref 18), (1, .int (iI i)), (2, .int (iI ((a26_ 4) (i))))] [.int (iI ((a26_ 4) (i))), .ref 18] _ _ _ _
                        refine pm_e_sim pm_a169_324 rfl ?_
                        refine pm_e_top (y := iI 5) (by decide +kernel) ?_
                        show pm_E _ _ _ 325 [(0, .ref 18), (1, .int (iI i)), (2, .int (iI ((a26_ 4) (i))))] [.int (iI 5), .int (iI ((a26_ 4) (i))), .ref 18] _ _ _ _
                        refine pm_c_ne (t := 333) pm_a169_325 rfl ⟨by omega, by omega⟩ ⟨by omega, by omega⟩ (fun h_327 => ?_) (fun h_327 => ?_)
                        · skip
                          show pm_E _ _ _ 333 [(0, .ref 18), (1, .int (iI i)), (2, .int (iI ((a26_ 4) (i))))] [.ref 18] _ _ _ _
                          refine pm_e_sim pm_a169_333 rfl ?_
                          refine pm_e_top (y := iI 88) (by decide +kernel) ?_
                          show pm_E _ _ _ 335 [(0, .ref 18), (1, .int (iI i)), (2, .int (iI ((a26_ 4) (i))))] [.int (iI 88), .ref 18] _ _ _ _
                          refine pm_i_callv (k := 18) (T2 := pm_mm172) pm_a169_335 rfl rfl rfl (mh_get (j := 0) hA rfl) ⟨Nat.le_of_ble_eq_true rfl, Nat.le_of_ble_eq_true rfl, rfl, by decide +kernel⟩ ?_
                          show pm_E none _ _ 0 [(0, .ref 18), (1, .int (iI 88))] [] _ _ _ _
                          refine M_say hA (by omega) (by omega) ?_
                          obtain ⟨s27_, es27⟩ : ∃ z, z = updS s26_ 23 (s26_ 23 + 1) := ⟨_, rfl⟩
                          obtain ⟨a27_, ea27⟩ : ∃ z, z = updA a26_ 11 (updI (a26_ 11) (s26_ 23) (88)) := ⟨_, rfl⟩
                          rw [← es27, ← ea27]
                          have fs27 : ∀ j, j ≠ 23 → s27_ j = s0 j := fun j hj => by rw [es27]; simp [updS, hj, fs26 j hj]
                          have fa27 : ∀ j, j ≠ 11 → a27_ j = a0 j := fun j hj => by rw [ea27]; simp [updA, hj, fa26 j hj]
                          have t27 : s27_ 23 = s26_ 23 + 1 := by rw [es27]; rfl
                          have x6_27 := fs27 6 (by omega)
                          have x4_27 : a27_ 4 = a0 4 := fa27 4 (by omega)
                          have x5_27 : a27_ 5 = a0 5 := fa27 5 (by omega)
                          have x12_27 : a27_ 12 = a0 12 := fa27 12 (by omega)
                          have x13_27 : a27_ 13 = a0 13 := fa27 13 (by omega)
                          have y4_27 : a27_ 4 i = a0 4 i := by rw [x4_27]
                          have y5_27 : a27_ 5 i = a0 5 i := by rw [x5_27]
                          have y13_27 : a27_ 13 i = a0 13 i := by rw [x13_27]
                          show pm_E _ _ _ 338 [(0, .ref 18), (1, .int (iI i)), (2, .int (iI ((a26_ 4) (i))))] [] _ _ _ _
                          refine pm_e_inc (y := iI (i + 1)) pm_a169_338 rfl (iI_add _ _) (by decide +kernel) rfl ?_
                          show pm_E _ _ _ 341 [(0, .ref 18), (1, .int (iI (i + 1))), (2, .int (iI ((a26_ 4) (i))))] [] _ _ _ _
                          refine pm_e_goto pm_a169_341 rfl ?_
                          show pm_E _ _ _ 151 [(0, .ref 18), (1, .int (iI (i + 1))), (2, .int (iI ((a26_ 4) (i))))] [] _ _ _ _
                          show pm_E _ _ _ 151 ([(0, .ref 18), (1, .int (iI (i + 1)))] ++ [(2, .int (iI ((a26_ 4) (i))))]) [] _ _ _ _
                          refine pm_e_more [(2, .int (iI ((a26_ 4) (i))))] (show ([0, 1, 2] : List Nat).Nodup from by decide) ?_
                          exact ih (i + 1) s27_ a27_ (by omega) (by omega) fs27 fa27 (by omega) (by omega) kk (by omega)
                        · skip
                          show pm_E _ _ _ 328 [(0, .ref 18), (1, .int (iI i)), (2, .int (iI ((a26_ 4) (i))))] [.ref 18] _ _ _ _
                          refine pm_e_sim pm_a169_328 rfl ?_
                          refine pm_e_top (y := iI 70) (by decide +kernel) ?_
                          show pm_E _ _ _ 330 [(0, .ref 18), (1, .int (iI i)), (2, .int (iI ((a26_ 4) (i))))] [.int (iI 70), .ref 18] _ _ _ _
                          refine pm_e_goto pm_a169_330 rfl ?_
                          show pm_E _ _ _ 335 [(0, .ref 18), (1, .int (iI i)), (2, .int (iI ((a26_ 4) (i))))] [.int (iI 70), .ref 18] _ _ _ _
                          refine pm_i_callv (k := 18) (T2 := pm_mm172) pm_a169_335 rfl rfl rfl (mh_get (j := 0) hA rfl) ⟨Nat.le_of_ble_eq_true rfl, Nat.le_of_ble_eq_true rfl, rfl, by decide +kernel⟩ ?_
                          show pm_E none _ _ 0 [(0, .ref 18), (1, .int (iI 70))] [] _ _ _ _
                          refine M_say hA (by omega) (by omega) ?_
                          obtain ⟨s28_, es28⟩ : ∃ z, z = updS s26_ 23 (s26_ 23 + 1) := ⟨_, rfl⟩
                          obtain ⟨a28_, ea28⟩ : ∃ z, z = updA a26_ 11 (updI (a26_ 11) (s26_ 23) (70)) := ⟨_, rfl⟩
                          rw [← es28, ← ea28]
                          have fs28 : ∀ j, j ≠ 23 → s28_ j = s0 j := fun j hj => by rw [es28]; simp [updS, hj, fs26 j hj]
                          have fa28 : ∀ j, j ≠ 11 → a28_ j = a0 j := fun j hj => by rw [ea28]; simp [updA, hj, fa26 j hj]
                          have t28 : s28_ 23 = s26_ 23 + 1 := by rw [es28]; rfl
                          have x6_28 := fs28 6 (by omega)
                          have x4_28 : a28_ 4 = a0 4 := fa28 4 (by omega)
                          have x5_28 : a28_ 5 = a0 5 := fa28 5 (by omega)
                          have x12_28 : a28_ 12 = a0 12 := fa28 12 (by omega)
                          have x13_28 : a28_ 13 = a0 13 := fa28 13 (by omega)
                          have y4_28 : a28_ 4 i = a0 4 i := by rw [x4_28]
                          have y5_28 : a28_ 5 i = a0 5 i := by rw [x5_28]
                          have y13_28 : a28_ 13 i = a0 13 i := by rw [x13_28]
                          show pm_E _ _ _ 338 [(0, .ref 18), (1, .int (iI i)), (2, .int (iI ((a26_ 4) (i))))] [] _ _ _ _
                          refine pm_e_inc (y := iI (i + 1)) pm_a169_338 rfl (iI_add _ _) (by decide +kernel) rfl ?_
                          show pm_E _ _ _ 341 [(0, .ref 18), (1, .int (iI (i + 1))), (2, .int (iI ((a26_ 4) (i))))] [] _ _ _ _
                          refine pm_e_goto pm_a169_341 rfl ?_
                          show pm_E _ _ _ 151 [(0, .ref 18), (1, .int (iI (i + 1))), (2, .int (iI ((a26_ 4) (i))))] [] _ _ _ _
                          show pm_E _ _ _ 151 ([(0, .ref 18), (1, .int (iI (i + 1)))] ++ [(2, .int (iI ((a26_ 4) (i))))]) [] _ _ _ _
                          refine pm_e_more [(2, .int (iI ((a26_ 4) (i))))] (show ([0, 1, 2] : List Nat).Nodup from by decide) ?_
                          exact ih (i + 1) s28_ a28_ (by omega) (by omega) fs28 fa28 (by omega) (by omega) kk (by omega)
                      · skip
                        show pm_E _ _ _ 318 [(0, .ref 18), (1, .int (iI i)), (2, .int (iI ((a26_ 4) (i))))] [.ref 18] _ _ _ _
                        refine pm_e_sim pm_a169_318 rfl ?_
                        refine pm_e_top (y := iI 73) (by decide +kernel) ?_
                        show pm_E _ _ _ 320 [(0, .ref 18), (1, .int (iI i)), (2, .int (iI ((a26_ 4) (i))))] [.int (iI 73), .ref 18] _ _ _ _
                        refine pm_e_goto pm_a169_320 rfl ?_
                        show pm_E _ _ _ 335 [(0, .ref 18), (1, .int (iI i)), (2, .int (iI ((a26_ 4) (i))))] [.int (iI 73), .ref 18] _ _ _ _
                        refine pm_i_callv (k := 18) (T2 := pm_mm172) pm_a169_335 rfl rfl rfl (mh_get (j := 0) hA rfl) ⟨Nat.le_of_ble_eq_true rfl, Nat.le_of_ble_eq_true rfl, rfl, by decide +kernel⟩ ?_
                        show pm_E none _ _ 0 [(0, .ref 18), (1, .int (iI 73))] [] _ _ _ _
                        refine M_say hA (by omega) (by omega) ?_
                        obtain ⟨s29_, es29⟩ : ∃ z, z = updS s26_ 23 (s26_ 23 + 1) := ⟨_, rfl⟩
                        obtain ⟨a29_, ea29⟩ : ∃ z, z = updA a26_ 11 (updI (a26_ 11) (s26_ 23) (73)) := ⟨_, rfl⟩
                        rw [← es29, ← ea29]
                        have fs29 : ∀ j, j ≠ 23 → s29_ j = s0 j := fun j hj => by rw [es29]; simp [updS, hj, fs26 j hj]
                        have fa29 : ∀ j, j ≠ 11 → a29_ j = a0 j := fun j hj => by rw [ea29]; simp [updA, hj, fa26 j hj]
                        have t29 : s29_ 23 = s26_ 23 + 1 := by rw [es29]; rfl
                        have x6_29 := fs29 6 (by omega)
                        have x4_29 : a29_ 4 = a0 4 := fa29 4 (by omega)
                        have x5_29 : a29_ 5 = a0 5 := fa29 5 (by omega)
                        have x12_29 : a29_ 12 = a0 12 := fa29 12 (by omega)
                        have x13_29 : a29_ 13 = a0 13 := fa29 13 (by omega)
                        have y4_29 : a29_ 4 i = a0 4 i := by rw [x4_29]
                        have y5_29 : a29_ 5 i = a0 5 i := by rw [x5_29]
                        have y13_29 : a29_ 13 i = a0 13 i := by rw [x13_29]
                        show pm_E _ _ _ 338 [(0, .ref 18), (1, .int (iI i)), (2, .int (iI ((a26_ 4) (i))))] [] _ _ _ _
                        refine pm_e_inc (y := iI (i + 1)) pm_a169_338 rfl (iI_add _ _) (by decide +kernel) rfl ?_
                        show pm_E _ _ _ 341 [(0, .ref 18), (1, .int (iI (i + 1))), (2, .int (iI ((a26_ 4) (i))))] [] _ _ _ _
                        refine pm_e_goto pm_a169_341 rfl ?_
                        show pm_E _ _ _ 151 [(0, .ref 18), (1, .int (iI (i + 1))), (2, .int (iI ((a26_ 4) (i))))] [] _ _ _ _
                        show pm_E _ _ _ 151 ([(0, .ref 18), (1, .int (iI (i + 1)))] ++ [(2, .int (iI ((a26_ 4) (i))))]) [] _ _ _ _
                        refine pm_e_more [(2, .int (iI ((a26_ 4) (i))))] (show ([0, 1, 2] : List Nat).Nodup from by decide) ?_
                        exact ih (i + 1) s29_ a29_ (by omega) (by omega) fs29 fa29 (by omega) (by omega) kk (by omega)
                    · skip
                      show pm_E _ _ _ 308 [(0, .ref 18), (1, .int (iI i)), (2, .int (iI ((a26_ 4) (i))))] [.ref 18] _ _ _ _
                      refine pm_e_sim pm_a169_308 rfl ?_
                      refine pm_e_top (y := iI 75) (by decide +kernel) ?_
                      show pm_E _ _ _ 310 [(0, .ref 18), (1, .int (iI i)), (2, .int (iI ((a26_ 4) (i))))] [.int (iI 75), .ref 18] _ _ _ _
                      refine pm_e_goto pm_a169_310 rfl ?_
                      show pm_E _ _ _ 335 [(0, .ref 18), (1, .int (iI i)), (2, .int (iI ((a26_ 4) (i))))] [.int (iI 75), .ref 18] _ _ _ _
                      refine pm_i_callv (k := 18) (T2 := pm_mm172) pm_a169_335 rfl rfl rfl (mh_get (j := 0) hA rfl) ⟨Nat.le_of_ble_eq_true rfl, Nat.le_of_ble_eq_true rfl, rfl, by decide +kernel⟩ ?_
                      show pm_E none _ _ 0 [(0, .ref 18), (1, .int (iI 75))] [] _ _ _ _
                      refine M_say hA (by omega) (by omega) ?_
                      obtain ⟨s30_, es30⟩ : ∃ z, z = updS s26_ 23 (s26_ 23 + 1) := ⟨_, rfl⟩
                      obtain ⟨a30_, ea30⟩ : ∃ z, z = updA a26_ 11 (updI (a26_ 11) (s26_ 23) (75)) := ⟨_, rfl⟩
                      rw [← es30, ← ea30]
                      have fs30 : ∀ j, j ≠ 23 → s30_ j = s0 j := fun j hj => by rw [es30]; simp [updS, hj, fs26 j hj]
                      have fa30 : ∀ j, j ≠ 11 → a30_ j = a0 j := fun j hj => by rw [ea30]; simp [updA, hj, fa26 j hj]
                      have t30 : s30_ 23 = s26_ 23 + 1 := by rw [es30]; rfl
                      have x6_30 := fs30 6 (by omega)
                      have x4_30 : a30_ 4 = a0 4 := fa30 4 (by omega)
                      have x5_30 : a30_ 5 = a0 5 := fa30 5 (by omega)
                      have x12_30 : a30_ 12 = a0 12 := fa30 12 (by omega)
                      have x13_30 : a30_ 13 = a0 13 := fa30 13 (by omega)
                      have y4_30 : a30_ 4 i = a0 4 i := by rw [x4_30]
                      have y5_30 : a30_ 5 i = a0 5 i := by rw [x5_30]
                      have y13_30 : a30_ 13 i = a0 13 i := by rw [x13_30]
                      show pm_E _ _ _ 338 [(0, .ref 18), (1, .int (iI i)), (2, .int (iI ((a26_ 4) (i))))] [] _ _ _ _
                      refine pm_e_inc (y := iI (i + 1)) pm_a169_338 rfl (iI_add _ _) (by decide +kernel) rfl ?_
                      show pm_E _ _ _ 341 [(0, .ref 18), (1, .int (iI (i + 1))), (2, .int (iI ((a26_ 4) (i))))] [] _ _ _ _
                      refine pm_e_goto pm_a169_341 rfl ?_
                      show pm_E _ _ _ 151 [(0, .ref 18), (1, .int (iI (i + 1))), (2, .int (iI ((a26_ 4) (i))))] [] _ _ _ _
                      show pm_E _ _ _ 151 ([(0, .ref 18), (1, .int (iI (i + 1)))] ++ [(2, .int (iI ((a26_ 4) (i))))]) [] _ _ _ _
                      refine pm_e_more [(2, .int (iI ((a26_ 4) (i))))] (show ([0, 1, 2] : List Nat).Nodup from by decide) ?_
                      exact ih (i + 1) s30_ a30_ (by omega) (by omega) fs30 fa30 (by omega) (by omega) kk (by omega)
                  · skip
                    show pm_E _ _ _ 298 [(0, .ref 18), (1, .int (iI i)), (2, .int (iI ((a26_ 4) (i))))] [.ref 18] _ _ _ _
                    refine pm_e_sim pm_a169_298 rfl ?_
                    refine pm_e_top (y := iI 83) (by decide +kernel) ?_
                    show pm_E _ _ _ 300 [(0, .ref 18), (1, .int (iI i)), (2, .int (iI ((a26_ 4) (i))))] [.int (iI 83), .ref 18] _ _ _ _
                    refine pm_e_goto pm_a169_300 rfl ?_
                    show pm_E _ _ _ 335 [(0, .ref 18), (1, .int (iI i)), (2, .int (iI ((a26_ 4) (i))))] [.int (iI 83), .ref 18] _ _ _ _
                    refine pm_i_callv (k := 18) (T2 := pm_mm172) pm_a169_335 rfl rfl rfl (mh_get (j := 0) hA rfl) ⟨Nat.le_of_ble_eq_true rfl, Nat.le_of_ble_eq_true rfl, rfl, by decide +kernel⟩ ?_
                    show pm_E none _ _ 0 [(0, .ref 18), (1, .int (iI 83))] [] _ _ _ _
                    refine M_say hA (by omega) (by omega) ?_
                    obtain ⟨s31_, es31⟩ : ∃ z, z = updS s26_ 23 (s26_ 23 + 1) := ⟨_, rfl⟩
                    obtain ⟨a31_, ea31⟩ : ∃ z, z = updA a26_ 11 (updI (a26_ 11) (s26_ 23) (83)) := ⟨_, rfl⟩
                    rw [← es31, ← ea31]
                    have fs31 : ∀ j, j ≠ 23 → s31_ j = s0 j := fun j hj => by rw [es31]; simp [updS, hj, fs26 j hj]
                    have fa31 : ∀ j, j ≠ 11 → a31_ j = a0 j := fun j hj => by rw [ea31]; simp [updA, hj, fa26 j hj]
                    have t31 : s31_ 23 = s26_ 23 + 1 := by rw [es31]; rfl
                    have x6_31 := fs31 6 (by omega)
                    have x4_31 : a31_ 4 = a0 4 := fa31 4 (by omega)
                    have x5_31 : a31_ 5 = a0 5 := fa31 5 (by omega)
                    have x12_31 : a31_ 12 = a0 12 := fa31 12 (by omega)
                    have x13_31 : a31_ 13 = a0 13 := fa31 13 (by omega)
                    have y4_31 : a31_ 4 i = a0 4 i := by rw [x4_31]
                    have y5_31 : a31_ 5 i = a0 5 i := by rw [x5_31]
                    have y13_31 : a31_ 13 i = a0 13 i := by rw [x13_31]
                    show pm_E _ _ _ 338 [(0, .ref 18), (1, .int (iI i)), (2, .int (iI ((a26_ 4) (i))))] [] _ _ _ _
                    refine pm_e_inc (y := iI (i + 1)) pm_a169_338 rfl (iI_add _ _) (by decide +kernel) rfl ?_
                    show pm_E _ _ _ 341 [(0, .ref 18), (1, .int (iI (i + 1))), (2, .int (iI ((a26_ 4) (i))))] [] _ _ _ _
                    refine pm_e_goto pm_a169_341 rfl ?_
                    show pm_E _ _ _ 151 [(0, .ref 18), (1, .int (iI (i + 1))), (2, .int (iI ((a26_ 4) (i))))] [] _ _ _ _
                    show pm_E _ _ _ 151 ([(0, .ref 18), (1, .int (iI (i + 1)))] ++ [(2, .int (iI ((a26_ 4) (i))))]) [] _ _ _ _
                    refine pm_e_more [(2, .int (iI ((a26_ 4) (i))))] (show ([0, 1, 2] : List Nat).Nodup from by decide) ?_
                    exact ih (i + 1) s31_ a31_ (by omega) (by omega) fs31 fa31 (by omega) (by omega) kk (by omega)
              · skip
                show pm_E _ _ _ 268 [(0, .ref 18), (1, .int (iI i)), (2, .int (iI ((a26_ 4) (i))))] [] _ _ _ _
                refine pm_e_sim pm_a169_268 rfl ?_
                show pm_E _ _ _ 269 [(0, .ref 18), (1, .int (iI i)), (2, .int (iI ((a26_ 4) (i))))] [.ref 18] _ _ _ _
                refine pm_e_sim pm_a169_269 rfl ?_
                show pm_E _ _ _ 270 [(0, .ref 18), (1, .int (iI i)), (2, .int (iI ((a26_ 4) (i))))] [.ref 18, .ref 18] _ _ _ _
                refine pm_i_get pm_a169_270 rfl (mh_get (j := 0) hA rfl) rfl ?_
                show pm_E _ _ _ 273 [(0, .ref 18), (1, .int (iI i)), (2, .int (iI ((a26_ 4) (i))))] [.ref 23, .ref 18] _ _ _ _
                refine pm_e_sim pm_a169_273 rfl ?_
                show pm_E _ _ _ 274 [(0, .ref 18), (1, .int (iI i)), (2, .int (iI ((a26_ 4) (i))))] [.int (iI i), .ref 23, .ref 18] _ _ _ _
                refine pm_i_ald pm_a169_274 (mh_get (j := 5) hA rfl) (by omega) (by omega) ⟨by omega, by omega⟩ ?_
                show pm_E _ _ _ 275 [(0, .ref 18), (1, .int (iI i)), (2, .int (iI ((a26_ 4) (i))))] [.int (iI ((a26_ 5) (i))), .ref 18] _ _ _ _
                refine pm_e_sim pm_a169_275 rfl ?_
                refine pm_e_top (y := iI 1) (by decide +kernel) ?_
                show pm_E _ _ _ 276 [(0, .ref 18), (1, .int (iI i)), (2, .int (iI ((a26_ 4) (i))))] [.int (iI 1), .int (iI ((a26_ 5) (i))), .ref 18] _ _ _ _
                refine pm_e_sim pm_a169_276 rfl ?_
                refine pm_e_top (y := iI ((a26_ 5) (i) - 1)) (iI_sub _ _) ?_
                show pm_E _ _ _ 277 [(0, .ref 18), (1, .int (iI i)), (2, .int (iI ((a26_ 4) (i))))] [.int (iI ((a26_ 5) (i) - 1)), .ref 18] _ _ _ _
                refine pm_e_sim pm_a169_277 rfl ?_
                show pm_E _ _ _ 278 [(0, .ref 18), (1, .int (iI i)), (2, .int (iI ((a26_ 4) (i))))] [.int (iI ((a26_ 4) (i))), .int (iI ((a26_ 5) (i) - 1)), .ref 18] _ _ _ _
                refine pm_e_sim pm_a169_278 rfl ?_
                refine pm_e_top (y := iI 10) (by decide +kernel) ?_
                show pm_E _ _ _ 280 [(0, .ref 18), (1, .int (iI i)), (2, .int (iI ((a26_ 4) (i))))] [.int (iI 10), .int (iI ((a26_ 4) (i))), .int (iI ((a26_ 5) (i) - 1)), .ref 18] _ _ _ _
                refine pm_e_sim pm_a169_280 rfl ?_
                refine pm_e_top (y := iI ((a26_ 4) (i) - 10)) (iI_sub _ _) ?_
                show pm_E _ _ _ 281 [(0, .ref 18), (1, .int (iI i)), (2, .int (iI ((a26_ 4) (i))))] [.int (iI ((a26_ 4) (i) - 10)), .int (iI ((a26_ 5) (i) - 1)), .ref 18] _ _ _ _
                refine pm_e_sim pm_a169_281 rfl ?_
                refine pm_e_top (y := iI ((a26_ 5) (i) - 1 - ((a26_ 4) (i) - 10))) (iI_sub _ _) ?_
                show pm_E _ _ _ 282 [(0, .ref 18), (1, .int (iI i)), (2, .int (iI ((a26_ 4) (i))))] [.int (iI ((a26_ 5) (i) - 1 - ((a26_ 4) (i) - 10))), .ref 18] _ _ _ _
                refine pm_i_callv (k := 18) (T2 := pm_mm173) pm_a169_282 rfl rfl rfl (mh_get (j := 0) hA rfl) ⟨Nat.le_of_ble_eq_true rfl, Nat.le_of_ble_eq_true rfl, rfl, by decide +kernel⟩ ?_
                show pm_E none _ _ 0 [(0, .ref 18), (1, .int (iI ((a26_ 5) (i) - 1 - ((a26_ 4) (i) - 10))))] [] _ _ _ _
                refine M_sayName hA ⟨by omega, by omega⟩ (by omega) (by omega) (fun s32_ a32_ gs32 ga32 t32 u32 => ?_)
                have fs32 : ∀ j, j ≠ 23 → s32_ j = s0 j := fun j hj => by rw [gs32 j hj]; exact fs26 j hj
                have fa32 : ∀ j, j ≠ 11 → a32_ j = a0 j := fun j hj => by rw [ga32 j hj]; exact fa26 j hj
                show pm_E _ _ _ 285 [(0, .ref 18), (1, .int (iI i)), (2, .int (iI ((a26_ 4) (i))))] [] _ _ _ _
                refine pm_e_goto pm_a169_285 rfl ?_
                show pm_E _ _ _ 338 [(0, .ref 18), (1, .int (iI i)), (2, .int (iI ((a26_ 4) (i))))] [] _ _ _ _
                refine pm_e_inc (y := iI (i + 1)) pm_a169_338 rfl (iI_add _ _) (by decide +kernel) rfl ?_
                show pm_E _ _ _ 341 [(0, .ref 18), (1, .int (iI (i + 1))), (2, .int (iI ((a26_ 4) (i))))] [] _ _ _ _
                refine pm_e_goto pm_a169_341 rfl ?_
                show pm_E _ _ _ 151 [(0, .ref 18), (1, .int (iI (i + 1))), (2, .int (iI ((a26_ 4) (i))))] [] _ _ _ _
                show pm_E _ _ _ 151 ([(0, .ref 18), (1, .int (iI (i + 1)))] ++ [(2, .int (iI ((a26_ 4) (i))))]) [] _ _ _ _
                refine pm_e_more [(2, .int (iI ((a26_ 4) (i))))] (show ([0, 1, 2] : List Nat).Nodup from by decide) ?_
                exact ih (i + 1) s32_ a32_ (by omega) (by omega) fs32 fa32 (by omega) (by omega) kk (by omega)
            · skip
              show pm_E _ _ _ 237 [(0, .ref 18), (1, .int (iI i)), (2, .int (iI ((a26_ 4) (i))))] [] _ _ _ _
              refine pm_e_sim pm_a169_237 rfl ?_
              show pm_E _ _ _ 238 [(0, .ref 18), (1, .int (iI i)), (2, .int (iI ((a26_ 4) (i))))] [.ref 18] _ _ _ _
              refine pm_e_sim pm_a169_238 rfl ?_
              refine pm_e_top (y := iI 92) (by decide +kernel) ?_
              show pm_E _ _ _ 240 [(0, .ref 18), (1, .int (iI i)), (2, .int (iI ((a26_ 4) (i))))] [.int (iI 92), .ref 18] _ _ _ _
              refine pm_i_callv (k := 18) (T2 := pm_mm172) pm_a169_240 rfl rfl rfl (mh_get (j := 0) hA rfl) ⟨Nat.le_of_ble_eq_true rfl, Nat.le_of_ble_eq_true rfl, rfl, by decide +kernel⟩ ?_
              show pm_E none _ _ 0 [(0, .ref 18), (1, .int (iI 92))] [] _ _ _ _
              refine M_say hA (by omega) (by omega) ?_
              obtain ⟨s33_, es33⟩ : ∃ z, z = updS s26_ 23 (s26_ 23 + 1) := ⟨_, rfl⟩
              obtain ⟨a33_, ea33⟩ : ∃ z, z = updA a26_ 11 (updI (a26_ 11) (s26_ 23) (92)) := ⟨_, rfl⟩
              rw [← es33, ← ea33]
              have fs33 : ∀ j, j ≠ 23 → s33_ j = s0 j := fun j hj => by rw [es33]; simp [updS, hj, fs26 j hj]
              have fa33 : ∀ j, j ≠ 11 → a33_ j = a0 j := fun j hj => by rw [ea33]; simp [updA, hj, fa26 j hj]
              have t33 : s33_ 23 = s26_ 23 + 1 := by rw [es33]; rfl
              have x6_33 := fs33 6 (by omega)
              have x4_33 : a33_ 4 = a0 4 := fa33 4 (by omega)
              have x5_33 : a33_ 5 = a0 5 := fa33 5 (by omega)
              have x12_33 : a33_ 12 = a0 12 := fa33 12 (by omega)
              have x13_33 : a33_ 13 = a0 13 := fa33 13 (by omega)
              have y4_33 : a33_ 4 i = a0 4 i := by rw [x4_33]
              have y5_33 : a33_ 5 i = a0 5 i := by rw [x5_33]
              have y13_33 : a33_ 13 i = a0 13 i := by rw [x13_33]
              show pm_E _ _ _ 243 [(0, .ref 18), (1, .int (iI i)), (2, .int (iI ((a26_ 4) (i))))] [] _ _ _ _
              refine pm_e_sim pm_a169_243 rfl ?_
              show pm_E _ _ _ 244 [(0, .ref 18), (1, .int (iI i)), (2, .int (iI ((a26_ 4) (i))))] [.ref 18] _ _ _ _
              refine pm_e_sim pm_a169_244 rfl ?_
              show pm_E _ _ _ 245 [(0, .ref 18), (1, .int (iI i)), (2, .int (iI ((a26_ 4) (i))))] [.ref 18, .ref 18] _ _ _ _
              refine pm_i_get pm_a169_245 rfl (mh_get (j := 0) hA rfl) rfl ?_
              show pm_E _ _ _ 248 [(0, .ref 18), (1, .int (iI i)), (2, .int (iI ((a26_ 4) (i))))] [.ref 23, .ref 18] _ _ _ _
              refine pm_e_sim pm_a169_248 rfl ?_
              show pm_E _ _ _ 249 [(0, .ref 18), (1, .int (iI i)), (2, .int (iI ((a26_ 4) (i))))] [.int (iI i), .ref 23, .ref 18] _ _ _ _
              refine pm_i_ald pm_a169_249 (mh_get (j := 5) hA rfl) (by omega) (by omega) ⟨by omega, by omega⟩ ?_
              show pm_E _ _ _ 250 [(0, .ref 18), (1, .int (iI i)), (2, .int (iI ((a26_ 4) (i))))] [.int (iI ((a33_ 5) (i))), .ref 18] _ _ _ _
              refine pm_i_callv (k := 18) (T2 := pm_mm173) pm_a169_250 rfl rfl rfl (mh_get (j := 0) hA rfl) ⟨Nat.le_of_ble_eq_true rfl, Nat.le_of_ble_eq_true rfl, rfl, by decide +kernel⟩ ?_
              show pm_E none _ _ 0 [(0, .ref 18), (1, .int (iI ((a33_ 5) (i))))] [] _ _ _ _
              refine M_sayName hA ⟨by omega, by omega⟩ (by omega) (by omega) (fun s34_ a34_ gs34 ga34 t34 u34 => ?_)
              have fs34 : ∀ j, j ≠ 23 → s34_ j = s0 j := fun j hj => by rw [gs34 j hj]; exact fs33 j hj
              have fa34 : ∀ j, j ≠ 11 → a34_ j = a0 j := fun j hj => by rw [ga34 j hj]; exact fa33 j hj
              show pm_E _ _ _ 253 [(0, .ref 18), (1, .int (iI i)), (2, .int (iI ((a26_ 4) (i))))] [] _ _ _ _
              refine pm_e_sim pm_a169_253 rfl ?_
              show pm_E _ _ _ 254 [(0, .ref 18), (1, .int (iI i)), (2, .int (iI ((a26_ 4) (i))))] [.ref 18] _ _ _ _
              refine pm_e_sim pm_a169_254 rfl ?_
              refine pm_e_top (y := iI 46) (by decide +kernel) ?_
              show pm_E _ _ _ 256 [(0, .ref 18), (1, .int (iI i)), (2, .int (iI ((a26_ 4) (i))))] [.int (iI 46), .ref 18] _ _ _ _
              refine pm_i_callv (k := 18) (T2 := pm_mm172) pm_a169_256 rfl rfl rfl (mh_get (j := 0) hA rfl) ⟨Nat.le_of_ble_eq_true rfl, Nat.le_of_ble_eq_true rfl, rfl, by decide +kernel⟩ ?_
              show pm_E none _ _ 0 [(0, .ref 18), (1, .int (iI 46))] [] _ _ _ _
              refine M_say hA (by omega) (by omega) ?_
              obtain ⟨s35_, es35⟩ : ∃ z, z = updS s34_ 23 (s34_ 23 + 1) := ⟨_, rfl⟩
              obtain ⟨a35_, ea35⟩ : ∃ z, z = updA a34_ 11 (updI (a34_ 11) (s34_ 23) (46)) := ⟨_, rfl⟩
              rw [← es35, ← ea35]
              have fs35 : ∀ j, j ≠ 23 → s35_ j = s0 j := fun j hj => by rw [es35]; simp [updS, hj, fs34 j hj]
              have fa35 : ∀ j, j ≠ 11 → a35_ j = a0 j := fun j hj => by rw [ea35]; simp [updA, hj, fa34 j hj]
              have t35 : s35_ 23 = s34_ 23 + 1 := by rw [es35]; rfl
              have x6_35 := fs35 6 (by omega)
              have x4_35 : a35_ 4 = a0 4 := fa35 4 (by omega)
              have x5_35 : a35_ 5 = a0 5 := fa35 5 (by omega)
              have x12_35 : a35_ 12 = a0 12 := fa35 12 (by omega)
              have x13_35 : a35_ 13 = a0 13 := fa35 13 (by omega)
              have y4_35 : a35_ 4 i = a0 4 i := by rw [x4_35]
              have y5_35 : a35_ 5 i = a0 5 i := by rw [x5_35]
              have y13_35 : a35_ 13 i = a0 13 i := by rw [x13_35]
              show pm_E _ _ _ 259 [(0, .ref 18), (1, .int (iI i)), (2, .int (iI ((a26_ 4) (i))))] [] _ _ _ _
              refine pm_e_goto pm_a169_259 rfl ?_
              show pm_E _ _ _ 338 [(0, .ref 18), (1, .int (iI i)), (2, .int (iI ((a26_ 4) (i))))] [] _ _ _ _
              refine pm_e_inc (y := iI (i + 1)) pm_a169_338 rfl (iI_add _ _) (by decide +kernel) rfl ?_
              show pm_E _ _ _ 341 [(0, .ref 18), (1, .int (iI (i + 1))), (2, .int (iI ((a26_ 4) (i))))] [] _ _ _ _
              refine pm_e_goto pm_a169_341 rfl ?_
              show pm_E _ _ _ 151 [(0, .ref 18), (1, .int (iI (i + 1))), (2, .int (iI ((a26_ 4) (i))))] [] _ _ _ _
              show pm_E _ _ _ 151 ([(0, .ref 18), (1, .int (iI (i + 1)))] ++ [(2, .int (iI ((a26_ 4) (i))))]) [] _ _ _ _
              refine pm_e_more [(2, .int (iI ((a26_ 4) (i))))] (show ([0, 1, 2] : List Nat).Nodup from by decide) ?_
              exact ih (i + 1) s35_ a35_ (by omega) (by omega) fs35 fa35 (by omega) (by omega) kk (by omega)
        · skip
          show pm_E _ _ _ 207 [(0, .ref 18), (1, .int (iI i)), (2, .int (iI (k')))] [] _ _ _ _
          refine pm_e_sim pm_a169_207 rfl ?_
          show pm_E _ _ _ 208 [(0, .ref 18), (1, .int (iI i)), (2, .int (iI (k')))] [.ref 18] _ _ _ _
          refine pm_e_sim pm_a169_208 rfl ?_
          refine pm_e_top (y := iI 40) (by decide +kernel) ?_
          show pm_E _ _ _ 210 [(0, .ref 18), (1, .int (iI i)), (2, .int (iI (k')))] [.int (iI 40), .ref 18] _ _ _ _
          refine pm_i_callv (k := 18) (T2 := pm_mm172) pm_a169_210 rfl rfl rfl (mh_get (j := 0) hA rfl) ⟨Nat.le_of_ble_eq_true rfl, Nat.le_of_ble_eq_true rfl, rfl, by decide +kernel⟩ ?_
          show pm_E none _ _ 0 [(0, .ref 18), (1, .int (iI 40))] [] _ _ _ _
          refine M_say hA (by omega) (by omega) ?_
          obtain ⟨s36_, es36⟩ : ∃ z, z = updS s26_ 23 (s26_ 23 + 1) := ⟨_, rfl⟩
          obtain ⟨a36_, ea36⟩ : ∃ z, z = updA a26_ 11 (updI (a26_ 11) (s26_ 23) (40)) := ⟨_, rfl⟩
          rw [← es36, ← ea36]
          have fs36 : ∀ j, j ≠ 23 → s36_ j = s0 j := fun j hj => by rw [es36]; simp [updS, hj, fs26 j hj]
          have fa36 : ∀ j, j ≠ 11 → a36_ j = a0 j := fun j hj => by rw [ea36]; simp [updA, hj, fa26 j hj]
          have t36 : s36_ 23 = s26_ 23 + 1 := by rw [es36]; rfl
          have x6_36 := fs36 6 (by omega)
          have x4_36 : a36_ 4 = a0 4 := fa36 4 (by omega)
          have x5_36 : a36_ 5 = a0 5 := fa36 5 (by omega)
          have x12_36 : a36_ 12 = a0 12 := fa36 12 (by omega)
          have x13_36 : a36_ 13 = a0 13 := fa36 13 (by omega)
          have y4_36 : a36_ 4 i = a0 4 i := by rw [x4_36]
          have y5_36 : a36_ 5 i = a0 5 i := by rw [x5_36]
          have y13_36 : a36_ 13 i = a0 13 i := by rw [x13_36]
          show pm_E _ _ _ 213 [(0, .ref 18), (1, .int (iI i)), (2, .int (iI (k')))] [] _ _ _ _
          refine pm_e_sim pm_a169_213 rfl ?_
          show pm_E _ _ _ 214 [(0, .ref 18), (1, .int (iI i)), (2, .int (iI (k')))] [.int (iI i)] _ _ _ _
          refine pm_e_sim pm_a169_214 rfl ?_
          show pm_E _ _ _ 215 [(0, .ref 18), (1, .int (iI i)), (2, .int (iI (k')))] [.ref 18, .int (iI i)] _ _ _ _
          refine pm_i_get pm_a169_215 rfl (mh_get (j := 0) hA rfl) rfl ?_
          show pm_E _ _ _ 218 [(0, .ref 18), (1, .int (iI i)), (2, .int (iI (k')))] [.int (iI (s36_ 6)), .int (iI i)] _ _ _ _
          refine pm_c_ge (t := 230) pm_a169_218 rfl ⟨by omega, by omega⟩ ⟨by omega, by omega⟩ (fun h_328 => ?_) (fun h_328 => ?_)
          · skip
            show pm_E _ _ _ 230 [(0, .ref 18), (1, .int (iI i)), (2, .int (iI (k')))] [] _ _ _ _
            refine pm_e_sim pm_a169_230 rfl ?_
            refine pm_e_top (y := iI 0) (by decide +kernel) ?_
            show pm_E _ _ _ 231 [(0, .ref 18), (1, .int (iI i)), (2, .int (iI (k')))] [.int (iI 0)] _ _ _ _
            refine pm_e_sim pm_a169_231 rfl ?_
            show pm_E _ _ _ 232 [(0, .ref 18), (1, .int (iI i)), (2, .int (iI 0))] [] _ _ _ _
            refine pm_e_sim pm_a169_232 rfl ?_
            show pm_E _ _ _ 233 [(0, .ref 18), (1, .int (iI i)), (2, .int (iI 0))] [.int (iI 0)] _ _ _ _
            refine pm_e_sim pm_a169_233 rfl ?_
            refine pm_e_top (y := iI 1) (by decide +kernel) ?_
            show pm_E _ _ _ 234 [(0, .ref 18), (1, .int (iI i)), (2, .int (iI 0))] [.int (iI 1), .int (iI 0)] _ _ _ _
            refine pm_e_ict pm_a169_234 rfl (by decide +kernel) ?_
            show pm_E _ _ _ 262 [(0, .ref 18), (1, .int (iI i)), (2, .int (iI 0))] [] _ _ _ _
            refine pm_e_sim pm_a169_262 rfl ?_
            show pm_E _ _ _ 263 [(0, .ref 18), (1, .int (iI i)), (2, .int (iI 0))] [.int (iI 0)] _ _ _ _
            refine pm_e_sim pm_a169_263 rfl ?_
            refine pm_e_top (y := iI 9) (by decide +kernel) ?_
            show pm_E _ _ _ 265 [(0, .ref 18), (1, .int (iI i)), (2, .int (iI 0))] [.int (iI 9), .int (iI 0)] _ _ _ _
            refine pm_e_ict pm_a169_265 rfl (by decide +kernel) ?_
            show pm_E _ _ _ 288 [(0, .ref 18), (1, .int (iI i)), (2, .int (iI 0))] [] _ _ _ _
            refine pm_e_sim pm_a169_288 rfl ?_
            show pm_E _ _ _ 289 [(0, .ref 18), (1, .int (iI i)), (2, .int (iI 0))] [.int (iI 0)] _ _ _ _
            refine pm_e_ift pm_a169_289 rfl (by decide +kernel) ?_
            show pm_E _ _ _ 338 [(0, .ref 18), (1, .int (iI i)), (2, .int (iI 0))] [] _ _ _ _
            refine pm_e_inc (y := iI (i + 1)) pm_a169_338 rfl (iI_add _ _) (by decide +kernel) rfl ?_
            show pm_E _ _ _ 341 [(0, .ref 18), (1, .int (iI (i + 1))), (2, .int (iI 0))] [] _ _ _ _
            refine pm_e_goto pm_a169_341 rfl ?_
            show pm_E _ _ _ 151 [(0, .ref 18), (1, .int (iI (i + 1))), (2, .int (iI 0))] [] _ _ _ _
            show pm_E _ _ _ 151 ([(0, .ref 18), (1, .int (iI (i + 1)))] ++ [(2, .int (iI 0))]) [] _ _ _ _
            refine pm_e_more [(2, .int (iI 0))] (show ([0, 1, 2] : List Nat).Nodup from by decide) ?_
            exact ih (i + 1) s36_ a36_ (by omega) (by omega) fs36 fa36 (by omega) (by omega) kk (by omega)
          · skip
            show pm_E _ _ _ 221 [(0, .ref 18), (1, .int (iI i)), (2, .int (iI (k')))] [] _ _ _ _
            refine pm_e_sim pm_a169_221 rfl ?_
            show pm_E _ _ _ 222 [(0, .ref 18), (1, .int (iI i)), (2, .int (iI (k')))] [.ref 18] _ _ _ _
            refine pm_i_get pm_a169_222 rfl (mh_get (j := 0) hA rfl) rfl ?_
            show pm_E _ _ _ 225 [(0, .ref 18), (1, .int (iI i)), (2, .int (iI (k')))] [.ref 22] _ _ _ _
            refine pm_e_sim pm_a169_225 rfl ?_
            show pm_E _ _ _ 226 [(0, .ref 18), (1, .int (iI i)), (2, .int (iI (k')))] [.int (iI i), .ref 22] _ _ _ _
            refine pm_i_ald pm_a169_226 (mh_get (j := 4) hA rfl) (by omega) (by omega) ⟨by omega, by omega⟩ ?_
            show pm_E _ _ _ 227 [(0, .ref 18), (1, .int (iI i)), (2, .int (iI (k')))] [.int (iI ((a36_ 4) (i)))] _ _ _ _
            refine pm_e_goto pm_a169_227 rfl ?_
            show pm_E _ _ _ 231 [(0, .ref 18), (1, .int (iI i)), (2, .int (iI (k')))] [.int (iI ((a36_ 4) (i)))] _ _ _ _
            refine pm_e_sim pm_a169_231 rfl ?_
            show pm_E _ _ _ 232 [(0, .ref 18), (1, .int (iI i)), (2, .int (iI ((a36_ 4) (i))))] [] _ _ _ _
            refine pm_e_sim pm_a169_232 rfl ?_
            show pm_E _ _ _ 233 [(0, .ref 18), (1, .int (iI i)), (2, .int (iI ((a36_ 4) (i))))] [.int (iI ((a36_ 4) (i)))] _ _ _ _
            refine pm_e_sim pm_a169_233 rfl ?_
            refine pm_e_top (y := iI 1) (by decide +kernel) ?_
            show pm_E _ _ _ 234 [(0, .ref 18), (1, .int (iI i)), (2, .int (iI ((a36_ 4) (i))))] [.int (iI 1), .int (iI ((a36_ 4) (i)))] _ _ _ _
            refine pm_c_ne (t := 262) pm_a169_234 rfl ⟨by omega, by omega⟩ ⟨by omega, by omega⟩ (fun h_329 => ?_) (fun h_329 => ?_)
            · skip
              show pm_E _ _ _ 262 [(0, .ref 18), (1, .int (iI i)), (2, .int (iI ((a36_ 4) (i))))] [] _ _ _ _
              refine pm_e_sim pm_a169_262 rfl ?_
              show pm_E _ _ _ 263 [(0, .ref 18), (1, .int (iI i)), (2, .int (iI ((a36_ 4) (i))))] [.int (iI ((a36_ 4) (i)))] _ _ _ _
              refine pm_e_sim pm_a169_263 rfl ?_
              refine pm_e_top (y := iI 9) (by decide +kernel) ?_
              show pm_E _ _ _ 265 [(0, .ref 18), (1, .int (iI i)), (2, .int (iI ((a36_ 4) (i))))] [.int (iI 9), .int (iI ((a36_ 4) (i)))] _ _ _ _
              refine pm_c_le (t := 288) pm_a169_265 rfl ⟨by omega, by omega⟩ ⟨by omega, by omega⟩ (fun h_330 => ?_) (fun h_330 => ?_)
              · skip
                show pm_E _ _ _ 288 [(0, .ref 18), (1, .int (iI i)), (2, .int (iI ((a36_ 4) (i))))] [] _ _ _ _
                refine pm_e_sim pm_a169_288 rfl ?_
                show pm_E _ _ _ 289 [(0, .ref 18), (1, .int (iI i)), (2, .int (iI ((a36_ 4) (i))))] [.int (iI ((a36_ 4) (i)))] _ _ _ _
                refine pm_i_eq (t := 338) pm_a169_289 rfl ⟨by omega, by omega⟩ (fun h_331 => ?_) (fun h_331 => ?_)
                · skip
                  show pm_E _ _ _ 338 [(0, .ref 18), (1, .int (iI i)), (2, .int (iI ((a36_ 4) (i))))] [] _ _ _ _
                  refine pm_e_inc (y := iI (i + 1)) pm_a169_338 rfl (iI_add _ _) (by decide +kernel) rfl ?_
                  show pm_E _ _ _ 341 [(0, .ref 18), (1, .int (iI (i + 1))), (2, .int (iI ((a36_ 4) (i))))] [] _ _ _ _
                  refine pm_e_goto pm_a169_341 rfl ?_
                  show pm_E _ _ _ 151 [(0, .ref 18), (1, .int (iI (i + 1))), (2, .int (iI ((a36_ 4) (i))))] [] _ _ _ _
                  show pm_E _ _ _ 151 ([(0, .ref 18), (1, .int (iI (i + 1)))] ++ [(2, .int (iI ((a36_ 4) (i))))]) [] _ _ _ _
                  refine pm_e_more [(2, .int (iI ((a36_ 4) (i))))] (show ([0, 1, 2] : List Nat).Nodup from by decide) ?_
                  exact ih (i + 1) s36_ a36_ (by omega) (by omega) fs36 fa36 (by omega) (by omega) kk (by omega)
                · skip
                  show pm_E _ _ _ 292 [(0, .ref 18), (1, .int (iI i)), (2, .int (iI ((a36_ 4) (i))))] [] _ _ _ _
                  refine pm_e_sim pm_a169_292 rfl ?_
                  show pm_E _ _ _ 293 [(0, .ref 18), (1, .int (iI i)), (2, .int (iI ((a36_ 4) (i))))] [.ref 18] _ _ _ _
                  refine pm_e_sim pm_a169_293 rfl ?_
                  show pm_E _ _ _ 294 [(0, .ref 18), (1, .int (iI i)), (2, .int (iI ((a36_ 4) (i))))] [.int (iI ((a36_ 4) (i))), .ref 18] _ _ _ _
                  refine pm_e_sim pm_a169_294 rfl ?_
                  refine pm_e_top (y := iI 2) (by decide +kernel) ?_
                  show pm_E _ _ _ 295 [(0, .ref 18), (1, .int (iI i)), (2, .int (iI ((a36_ 4) (i))))] [.int (iI 2), .int (iI ((a36_ 4) (i))), .ref 18] _ _ _ _
                  refine pm_c_ne (t := 303) pm_a169_295 rfl ⟨by omega, by omega⟩ ⟨by omega, by omega⟩ (fun h_332 => ?_) (fun h_332 => ?_)
                  · skip
                    show pm_E _ _ _ 303 [(0, .ref 18), (1, .int (iI i)), (2, .int (iI ((a36_ 4) (i))))] [.ref 18] _ _ _ _
                    refine pm_e_sim pm_a169_303 rfl ?_
                    show pm_E _ _ _ 304 [(0, .ref 18), (1, .int (iI i)), (2, .int (iI ((a36_ 4) (i))))] [.int (iI ((a36_ 4) (i))), .ref 18] _ _ _ _
                    refine pm_e_sim pm_a169_304 rfl ?_
                    refine pm_e_top (y := iI 3) (by decide +kernel) ?_
                    show pm_E _ _ _ 305 [(0, .ref 18), (1, .int (iI i)), (2, .int (iI ((a36_ 4) (i))))] [.int (iI 3), .int (iI ((a36_ 4) (i))), .ref 18] _ _ _ _
                    refine pm_c_ne (t := 313) pm_a169_305 rfl ⟨by omega, by omega⟩ ⟨by omega, by omega⟩ (fun h_333 => ?_) (fun h_333 => ?_)
                    · skip
                      show pm_E _ _ _ 313 [(0, .ref 18), (1, .int (iI i)), (2, .int (iI ((a36_ 4) (i))))] [.ref 18] _ _ _ _
                      refine pm_e_sim pm_a169_313 rfl ?_
                      show pm_E _ _ _ 314 [(0, .ref 18), (1, .int (iI i)), (2, .int (iI ((a36_ 4) (i))))] [.int (iI ((a36_ 4) (i))), .ref 18] _ _ _ _
                      refine pm_e_sim pm_a169_314 rfl ?_
                      refine pm_e_top (y := iI 4) (by decide +kernel) ?_
                      show pm_E _ _ _ 315 [(0, .ref 18), (1, .int (iI i)), (2, .int (iI ((a36_ 4) (i))))] [.int (iI 4), .int (iI ((a36_ 4) (i))), .ref 18] _ _ _ _
                      refine pm_c_ne (t := 323) pm_a169_315 rfl ⟨by omega, by omega⟩ ⟨by omega, by omega⟩ (fun h_334 => ?_) (fun h_334 => ?_)
                      · skip
                        show pm_E _ _ _ 323 [(0, .ref 18), (1, .int (iI i)), (2, .int (iI ((a36_ 4) (i))))] [.ref 18] _ _ _ _
                        refine pm_e_sim pm_a169_323 rfl ?_
                        show pm_E _ _ _ 324 [(0, .ref 18), (1, .int (iI i)), (2, .int (iI ((a36_ 4) (i))))] [.int (iI ((a36_ 4) (i))), .ref 18] _ _ _ _
                        refine pm_e_sim pm_a169_324 rfl ?_
                        refine pm_e_top (y := iI 5) (by decide +kernel) ?_
                        show pm_E _ _ _ 325 [(0, .ref 18), (1, .int (iI i)), (2, .int (iI ((a36_ 4) (i))))] [.int (iI 5), .int (iI ((a36_ 4) (i))), .ref 18] _ _ _ _
                        refine pm_c_ne (t := 333) pm_a169_325 rfl ⟨by omega, by omega⟩ ⟨by omega, by omega⟩ (fun h_335 => ?_) (fun h_335 => ?_)
                        · skip
                          show pm_E _ _ _ 333 [(0, .ref 18), (1, .int (iI i)), (2, .int (iI ((a36_ 4) (i))))] [.ref 18] _ _ _ _
                          refine pm_e_sim pm_a169_333 rfl ?_
                          refine pm_e_top (y := iI 88) (by decide +kernel) ?_
                          show pm_E _ _ _ 335 [(0, .ref 18), (1, .int (iI i)), (2, .int (iI ((a36_ 4) (i))))] [.int (iI 88), .ref 18] _ _ _ _
                          refine pm_i_callv (k := 18) (T2 := pm_mm172) pm_a169_335 rfl rfl rfl (mh_get (j := 0) hA rfl) ⟨Nat.le_of_ble_eq_true rfl, Nat.le_of_ble_eq_true rfl, rfl, by decide +kernel⟩ ?_
                          show pm_E none _ _ 0 [(0, .ref 18), (1, .int (iI 88))] [] _ _ _ _
                          refine M_say hA (by omega) (by omega) ?_
                          obtain ⟨s37_, es37⟩ : ∃ z, z = updS s36_ 23 (s36_ 23 + 1) := ⟨_, rfl⟩
                          obtain ⟨a37_, ea37⟩ : ∃ z, z = updA a36_ 11 (updI (a36_ 11) (s36_ 23) (88)) := ⟨_, rfl⟩
                          rw [← es37, ← ea37]
                          have fs37 : ∀ j, j ≠ 23 → s37_ j = s0 j := fun j hj => by rw [es37]; simp [updS, hj, fs36 j hj]
                          have fa37 : ∀ j, j ≠ 11 → a37_ j = a0 j := fun j hj => by rw [ea37]; simp [updA, hj, fa36 j hj]
                          have t37 : s37_ 23 = s36_ 23 + 1 := by rw [es37]; rfl
                          have x6_37 := fs37 6 (by omega)
                          have x4_37 : a37_ 4 = a0 4 := fa37 4 (by omega)
                          have x5_37 : a37_ 5 = a0 5 := fa37 5 (by omega)
                          have x12_37 : a37_ 12 = a0 12 := fa37 12 (by omega)
                          have x13_37 : a37_ 13 = a0 13 := fa37 13 (by omega)
                          have y4_37 : a37_ 4 i = a0 4 i := by rw [x4_37]
                          have y5_37 : a37_ 5 i = a0 5 i := by rw [x5_37]
                          have y13_37 : a37_ 13 i = a0 13 i := by rw [x13_37]
                          show pm_E _ _ _ 338 [(0, .ref 18), (1, .int (iI i)), (2, .int (iI ((a36_ 4) (i))))] [] _ _ _ _
                          refine pm_e_inc (y := iI (i + 1)) pm_a169_338 rfl (iI_add _ _) (by decide +kernel) rfl ?_
                          show pm_E _ _ _ 341 [(0, .ref 18), (1, .int (iI (i + 1))), (2, .int (iI ((a36_ 4) (i))))] [] _ _ _ _
                          refine pm_e_goto pm_a169_341 rfl ?_
                          show pm_E _ _ _ 151 [(0, .ref 18), (1, .int (iI (i + 1))), (2, .int (iI ((a36_ 4) (i))))] [] _ _ _ _
                          show pm_E _ _ _ 151 ([(0, .ref 18), (1, .int (iI (i + 1)))] ++ [(2, .int (iI ((a36_ 4) (i))))]) [] _ _ _ _
                          refine pm_e_more [(2, .int (iI ((a36_ 4) (i))))] (show ([0, 1, 2] : List Nat).Nodup from by decide) ?_
                          exact ih (i + 1) s37_ a37_ (by omega) (by omega) fs37 fa37 (by omega) (by omega) kk (by omega)
                        · skip
                          show pm_E _ _ _ 328 [(0, .ref 18), (1, .int (iI i)), (2, .int (iI ((a36_ 4) (i))))] [.ref 18] _ _ _ _
                          refine pm_e_sim pm_a169_328 rfl ?_
                          refine pm_e_top (y := iI 70) (by decide +kernel) ?_
                          show pm_E _ _ _ 330 [(0, .ref 18), (1, .int (iI i)), (2, .int (iI ((a36_ 4) (i))))] [.int (iI 70), .ref 18] _ _ _ _
                          refine pm_e_goto pm_a169_330 rfl ?_
                          show pm_E _ _ _ 335 [(0, .ref 18), (1, .int (iI i)), (2, .int (iI ((a36_ 4) (i))))] [.int (iI 70), .ref 18] _ _ _ _
                          refine pm_i_callv (k := 18) (T2 := pm_mm172) pm_a169_335 rfl rfl rfl (mh_get (j := 0) hA rfl) ⟨Nat.le_of_ble_eq_true rfl, Nat.le_of_ble_eq_true rfl, rfl, by decide +kernel⟩ ?_
                          show pm_E none _ _ 0 [(0, .ref 18), (1, .int (iI 70))] [] _ _ _ _
                          refine M_say hA (by omega) (by omega) ?_
                          obtain ⟨s38_, es38⟩ : ∃ z, z = updS s36_ 23 (s36_ 23 + 1) := ⟨_, rfl⟩
                          obtain ⟨a38_, ea38⟩ : ∃ z, z = updA a36_ 11 (updI (a36_ 11) (s36_ 23) (70)) := ⟨_, rfl⟩
                          rw [← es38, ← ea38]
                          have fs38 : ∀ j, j ≠ 23 → s38_ j = s0 j := fun j hj => by rw [es38]; simp [updS, hj, fs36 j hj]
                          have fa38 : ∀ j, j ≠ 11 → a38_ j = a0 j := fun j hj => by rw [ea38]; simp [updA, hj, fa36 j hj]
                          have t38 : s38_ 23 = s36_ 23 + 1 := by rw [es38]; rfl
                          have x6_38 := fs38 6 (by omega)
                          have x4_38 : a38_ 4 = a0 4 := fa38 4 (by omega)
                          have x5_38 : a38_ 5 = a0 5 := fa38 5 (by omega)
                          have x12_38 : a38_ 12 = a0 12 := fa38 12 (by omega)
                          have x13_38 : a38_ 13 = a0 13 := fa38 13 (by omega)
                          have y4_38 : a38_ 4 i = a0 4 i := by rw [x4_38]
                          have y5_38 : a38_ 5 i = a0 5 i := by rw [x5_38]
                          have y13_38 : a38_ 13 i = a0 13 i := by rw [x13_38]
                          show pm_E _ _ _ 338 [(0, .ref 18), (1, .int (iI i)), (2, .int (iI ((a36_ 4) (i))))] [] _ _ _ _
                          refine pm_e_inc (y := iI (i + 1)) pm_a169_338 rfl (iI_add _ _) (by decide +kernel) rfl ?_
                          show pm_E _ _ _ 341 [(0, .ref 18), (1, .int (iI (i + 1))), (2, .int (iI ((a36_ 4) (i))))] [] _ _ _ _
                          refine pm_e_goto pm_a169_341 rfl ?_
                          show pm_E _ _ _ 151 [(0, .ref 18), (1, .int (iI (i + 1))), (2, .int (iI ((a36_ 4) (i))))] [] _ _ _ _
                          show pm_E _ _ _ 151 ([(0, .ref 18), (1, .int (iI (i + 1)))] ++ [(2, .int (iI ((a36_ 4) (i))))]) [] _ _ _ _
                          refine pm_e_more [(2, .int (iI ((a36_ 4) (i))))] (show ([0, 1, 2] : List Nat).Nodup from by decide) ?_
                          exact ih (i + 1) s38_ a38_ (by omega) (by omega) fs38 fa38 (by omega) (by omega) kk (by omega)
                      · skip
                        show pm_E _ _ _ 318 [(0, .ref 18), (1, .int (iI i)), (2, .int (iI ((a36_ 4) (i))))] [.ref 18] _ _ _ _
                        refine pm_e_sim pm_a169_318 rfl ?_
                        refine pm_e_top (y := iI 73) (by decide +kernel) ?_
                        show pm_E _ _ _ 320 [(0, .ref 18), (1, .int (iI i)), (2, .int (iI ((a36_ 4) (i))))] [.int (iI 73), .ref 18] _ _ _ _
                        refine pm_e_goto pm_a169_320 rfl ?_
                        show pm_E _ _ _ 335 [(0, .ref 18), (1, .int (iI i)), (2, .int (iI ((a36_ 4) (i))))] [.int (iI 73), .ref 18] _ _ _ _
                        refine pm_i_callv (k := 18) (T2 := pm_mm172) pm_a169_335 rfl rfl rfl (mh_get (j := 0) hA rfl) ⟨Nat.le_of_ble_eq_true rfl, Nat.le_of_ble_eq_true rfl, rfl, by decide +kernel⟩ ?_
                        show pm_E none _ _ 0 [(0, .ref 18), (1, .int (iI 73))] [] _ _ _ _
                        refine M_say hA (by omega) (by omega) ?_
                        obtain ⟨s39_, es39⟩ : ∃ z, z = updS s36_ 23 (s36_ 23 + 1) := ⟨_, rfl⟩
                        obtain ⟨a39_, ea39⟩ : ∃ z, z = updA a36_ 11 (updI (a36_ 11) (s36_ 23) (73)) := ⟨_, rfl⟩
                        rw [← es39, ← ea39]
                        have fs39 : ∀ j, j ≠ 23 → s39_ j = s0 j := fun j hj => by rw [es39]; simp [updS, hj, fs36 j hj]
                        have fa39 : ∀ j, j ≠ 11 → a39_ j = a0 j := fun j hj => by rw [ea39]; simp [updA, hj, fa36 j hj]
                        have t39 : s39_ 23 = s36_ 23 + 1 := by rw [es39]; rfl
                        have x6_39 := fs39 6 (by omega)
                        have x4_39 : a39_ 4 = a0 4 := fa39 4 (by omega)
                        have x5_39 : a39_ 5 = a0 5 := fa39 5 (by omega)
                        have x12_39 : a39_ 12 = a0 12 := fa39 12 (by omega)
                        have x13_39 : a39_ 13 = a0 13 := fa39 13 (by omega)
                        have y4_39 : a39_ 4 i = a0 4 i := by rw [x4_39]
                        have y5_39 : a39_ 5 i = a0 5 i := by rw [x5_39]
                        have y13_39 : a39_ 13 i = a0 13 i := by rw [x13_39]
                        show pm_E _ _ _ 338 [(0, .ref 18), (1, .int (iI i)), (2, .int (iI ((a36_ 4) (i))))] [] _ _ _ _
                        refine pm_e_inc (y := iI (i + 1)) pm_a169_338 rfl (iI_add _ _) (by decide +kernel) rfl ?_
                        show pm_E _ _ _ 341 [(0, .ref 18), (1, .int (iI (i + 1))), (2, .int (iI ((a36_ 4) (i))))] [] _ _ _ _
                        refine pm_e_goto pm_a169_341 rfl ?_
                        show pm_E _ _ _ 151 [(0, .ref 18), (1, .int (iI (i + 1))), (2, .int (iI ((a36_ 4) (i))))] [] _ _ _ _
                        show pm_E _ _ _ 151 ([(0, .ref 18), (1, .int (iI (i + 1)))] ++ [(2, .int (iI ((a36_ 4) (i))))]) [] _ _ _ _
                        refine pm_e_more [(2, .int (iI ((a36_ 4) (i))))] (show ([0, 1, 2] : List Nat).Nodup from by decide) ?_
                        exact ih (i + 1) s39_ a39_ (by omega) (by omega) fs39 fa39 (by omega) (by omega) kk (by omega)
                    · skip
                      show pm_E _ _ _ 308 [(0, .ref 18), (1, .int (iI i)), (2, .int (iI ((a36_ 4) (i))))] [.ref 18] _ _ _ _
                      refine pm_e_sim pm_a169_308 rfl ?_
                      refine pm_e_top (y := iI 75) (by decide +kernel) ?_
                      show pm_E _ _ _ 310 [(0, .ref 18), (1, .int (iI i)), (2, .int (iI ((a36_ 4) (i))))] [.int (iI 75), .ref 18] _ _ _ _
                      refine pm_e_goto pm_a169_310 rfl ?_
                      show pm_E _ _ _ 335 [(0, .ref 18), (1, .int (iI i)), (2, .int (iI ((a36_ 4) (i))))] [.int (iI 75), .ref 18] _ _ _ _
                      refine pm_i_callv (k := 18) (T2 := pm_mm172) pm_a169_335 rfl rfl rfl (mh_get (j := 0) hA rfl) ⟨Nat.le_of_ble_eq_true rfl, Nat.le_of_ble_eq_true rfl, rfl, by decide +kernel⟩ ?_
                      show pm_E none _ _ 0 [(0, .ref 18), (1, .int (iI 75))] [] _ _ _ _
                      refine M_say hA (by omega) (by omega) ?_
                      obtain ⟨s40_, es40⟩ : ∃ z, z = updS s36_ 23 (s36_ 23 + 1) := ⟨_, rfl⟩
                      obtain ⟨a40_, ea40⟩ : ∃ z, z = updA a36_ 11 (updI (a36_ 11) (s36_ 23) (75)) := ⟨_, rfl⟩
                      rw [← es40, ← ea40]
                      have fs40 : ∀ j, j ≠ 23 → s40_ j = s0 j := fun j hj => by rw [es40]; simp [updS, hj, fs36 j hj]
                      have fa40 : ∀ j, j ≠ 11 → a40_ j = a0 j := fun j hj => by rw [ea40]; simp [updA, hj, fa36 j hj]
                      have t40 : s40_ 23 = s36_ 23 + 1 := by rw [es40]; rfl
                      have x6_40 := fs40 6 (by omega)
                      have x4_40 : a40_ 4 = a0 4 := fa40 4 (by omega)
                      have x5_40 : a40_ 5 = a0 5 := fa40 5 (by omega)
                      have x12_40 : a40_ 12 = a0 12 := fa40 12 (by omega)
                      have x13_40 : a40_ 13 = a0 13 := fa40 13 (by omega)
                      have y4_40 : a40_ 4 i = a0 4 i := by rw [x4_40]
                      have y5_40 : a40_ 5 i = a0 5 i := by rw [x5_40]
                      have y13_40 : a40_ 13 i = a0 13 i := by rw [x13_40]
                      show pm_E _ _ _ 338 [(0, .ref 18), (1, .int (iI i)), (2, .int (iI ((a36_ 4) (i))))] [] _ _ _ _
                      refine pm_e_inc (y := iI (i + 1)) pm_a169_338 rfl (iI_add _ _) (by decide +kernel) rfl ?_
                      show pm_E _ _ _ 341 [(0, .ref 18), (1, .int (iI (i + 1))), (2, .int (iI ((a36_ 4) (i))))] [] _ _ _ _
                      refine pm_e_goto pm_a169_341 rfl ?_
                      show pm_E _ _ _ 151 [(0, .ref 18), (1, .int (iI (i + 1))), (2, .int (iI ((a36_ 4) (i))))] [] _ _ _ _
                      show pm_E _ _ _ 151 ([(0, .ref 18), (1, .int (iI (i + 1)))] ++ [(2, .int (iI ((a36_ 4) (i))))]) [] _ _ _ _
                      refine pm_e_more [(2, .int (iI ((a36_ 4) (i))))] (show ([0, 1, 2] : List Nat).Nodup from by decide) ?_
                      exact ih (i + 1) s40_ a40_ (by omega) (by omega) fs40 fa40 (by omega) (by omega) kk (by omega)
                  · skip
                    show pm_E _ _ _ 298 [(0, .ref 18), (1, .int (iI i)), (2, .int (iI ((a36_ 4) (i))))] [.ref 18] _ _ _ _
                    refine pm_e_sim pm_a169_298 rfl ?_
                    refine pm_e_top (y := iI 83) (by decide +kernel) ?_
                    show pm_E _ _ _ 300 [(0, .ref 18), (1, .int (iI i)), (2, .int (iI ((a36_ 4) (i))))] [.int (iI 83), .ref 18] _ _ _ _
                    refine pm_e_goto pm_a169_300 rfl ?_
                    show pm_E _ _ _ 335 [(0, .ref 18), (1, .int (iI i)), (2, .int (iI ((a36_ 4) (i))))] [.int (iI 83), .ref 18] _ _ _ _
                    refine pm_i_callv (k := 18) (T2 := pm_mm172) pm_a169_335 rfl rfl rfl (mh_get (j := 0) hA rfl) ⟨Nat.le_of_ble_eq_true rfl, Nat.le_of_ble_eq_true rfl, rfl, by decide +kernel⟩ ?_
                    show pm_E none _ _ 0 [(0, .ref 18), (1, .int (iI 83))] [] _ _ _ _
                    refine M_say hA (by omega) (by omega) ?_
                    obtain ⟨s41_, es41⟩ : ∃ z, z = updS s36_ 23 (s36_ 23 + 1) := ⟨_, rfl⟩
                    obtain ⟨a41_, ea41⟩ : ∃ z, z = updA a36_ 11 (updI (a36_ 11) (s36_ 23) (83)) := ⟨_, rfl⟩
                    rw [← es41, ← ea41]
                    have fs41 : ∀ j, j ≠ 23 → s41_ j = s0 j := fun j hj => by rw [es41]; simp [updS, hj, fs36 j hj]
                    have fa41 : ∀ j, j ≠ 11 → a41_ j = a0 j := fun j hj => by rw [ea41]; simp [updA, hj, fa36 j hj]
                    have t41 : s41_ 23 = s36_ 23 + 1 := by rw [es41]; rfl
                    have x6_41 := fs41 6 (by omega)
                    have x4_41 : a41_ 4 = a0 4 := fa41 4 (by omega)
                    have x5_41 : a41_ 5 = a0 5 := fa41 5 (by omega)
                    have x12_41 : a41_ 12 = a0 12 := fa41 12 (by omega)
                    have x13_41 : a41_ 13 = a0 13 := fa41 13 (by omega)
                    have y4_41 : a41_ 4 i = a0 4 i := by rw [x4_41]
                    have y5_41 : a41_ 5 i = a0 5 i := by rw [x5_41]
                    have y13_41 : a41_ 13 i = a0 13 i := by rw [x13_41]
                    show pm_E _ _ _ 338 [(0, .ref 18), (1, .int (iI i)), (2, .int (iI ((a36_ 4) (i))))] [] _ _ _ _
                    refine pm_e_inc (y := iI (i + 1)) pm_a169_338 rfl (iI_add _ _) (by decide +kernel) rfl ?_
                    show pm_E _ _ _ 341 [(0, .ref 18), (1, .int (iI (i + 1))), (2, .int (iI ((a36_ 4) (i))))] [] _ _ _ _
                    refine pm_e_goto pm_a169_341 rfl ?_
                    show pm_E _ _ _ 151 [(0, .ref 18), (1, .int (iI (i + 1))), (2, .int (iI ((a36_ 4) (i))))] [] _ _ _ _
                    show pm_E _ _ _ 151 ([(0, .ref 18), (1, .int (iI (i + 1)))] ++ [(2, .int (iI ((a36_ 4) (i))))]) [] _ _ _ _
                    refine pm_e_more [(2, .int (iI ((a36_ 4) (i))))] (show ([0, 1, 2] : List Nat).Nodup from by decide) ?_
                    exact ih (i + 1) s41_ a41_ (by omega) (by omega) fs41 fa41 (by omega) (by omega) kk (by omega)
              · skip
                show pm_E _ _ _ 268 [(0, .ref 18), (1, .int (iI i)), (2, .int (iI ((a36_ 4) (i))))] [] _ _ _ _
                refine pm_e_sim pm_a169_268 rfl ?_
                show pm_E _ _ _ 269 [(0, .ref 18), (1, .int (iI i)), (2, .int (iI ((a36_ 4) (i))))] [.ref 18] _ _ _ _
                refine pm_e_sim pm_a169_269 rfl ?_
                show pm_E _ _ _ 270 [(0, .ref 18), (1, .int (iI i)), (2, .int (iI ((a36_ 4) (i))))] [.ref 18, .ref 18] _ _ _ _
                refine pm_i_get pm_a169_270 rfl (mh_get (j := 0) hA rfl) rfl ?_
                show pm_E _ _ _ 273 [(0, .ref 18), (1, .int (iI i)), (2, .int (iI ((a36_ 4) (i))))] [.ref 23, .ref 18] _ _ _ _
                refine pm_e_sim pm_a169_273 rfl ?_
                show pm_E _ _ _ 274 [(0, .ref 18), (1, .int (iI i)), (2, .int (iI ((a36_ 4) (i))))] [.int (iI i), .ref 23, .ref 18] _ _ _ _
                refine pm_i_ald pm_a169_274 (mh_get (j := 5) hA rfl) (by omega) (by omega) ⟨by omega, by omega⟩ ?_
                show pm_E _ _ _ 275 [(0, .ref 18), (1, .int (iI i)), (2, .int (iI ((a36_ 4) (i))))] [.int (iI ((a36_ 5) (i))), .ref 18] _ _ _ _
                refine pm_e_sim pm_a169_275 rfl ?_
                refine pm_e_top (y := iI 1) (by decide +kernel) ?_
                show pm_E _ _ _ 276 [(0, .ref 18), (1, .int (iI i)), (2, .int (iI ((a36_ 4) (i))))] [.int (iI 1), .int (iI ((a36_ 5) (i))), .ref 18] _ _ _ _
                refine pm_e_sim pm_a169_276 rfl ?_
                refine pm_e_top (y := iI ((a36_ 5) (i) - 1)) (iI_sub _ _) ?_
                show pm_E _ _ _ 277 [(0, .ref 18), (1, .int (iI i)), (2, .int (iI ((a36_ 4) (i))))] [.int (iI ((a36_ 5) (i) - 1)), .ref 18] _ _ _ _
                refine pm_e_sim pm_a169_277 rfl ?_
                show pm_E _ _ _ 278 [(0, .ref 18), (1, .int (iI i)), (2, .int (iI ((a36_ 4) (i))))] [.int (iI ((a36_ 4) (i))), .int (iI ((a36_ 5) (i) - 1)), .ref 18] _ _ _ _
                refine pm_e_sim pm_a169_278 rfl ?_
                refine pm_e_top (y := iI 10) (by decide +kernel) ?_
                show pm_E _ _ _ 280 [(0, .ref 18), (1, .int (iI i)), (2, .int (iI ((a36_ 4) (i))))] [.int (iI 10), .int (iI ((a36_ 4) (i))), .int (iI ((a36_ 5) (i) - 1)), .ref 18] _ _ _ _
                refine pm_e_sim pm_a169_280 rfl ?_
                refine pm_e_top (y := iI ((a36_ 4) (i) - 10)) (iI_sub _ _) ?_
                show pm_E _ _ _ 281 [(0, .ref 18), (1, .int (iI i)), (2, .int (iI ((a36_ 4) (i))))] [.int (iI ((a36_ 4) (i) - 10)), .int (iI ((a36_ 5) (i) - 1)), .ref 18] _ _ _ _
                refine pm_e_sim pm_a169_281 rfl ?_
                refine pm_e_top (y := iI ((a36_ 5) (i) - 1 - ((a36_ 4) (i) - 10))) (iI_sub _ _) ?_
                show pm_E _ _ _ 282 [(0, .ref 18), (1, .int (iI i)), (2, .int (iI ((a36_ 4) (i))))] [.int (iI ((a36_ 5) (i) - 1 - ((a36_ 4) (i) - 10))), .ref 18] _ _ _ _
                refine pm_i_callv (k := 18) (T2 := pm_mm173) pm_a169_282 rfl rfl rfl (mh_get (j := 0) hA rfl) ⟨Nat.le_of_ble_eq_true rfl, Nat.le_of_ble_eq_true rfl, rfl, by decide +kernel⟩ ?_
                show pm_E none _ _ 0 [(0, .ref 18), (1, .int (iI ((a36_ 5) (i) - 1 - ((a36_ 4) (i) - 10))))] [] _ _ _ _
                refine M_sayName hA ⟨by omega, by omega⟩ (by omega) (by omega) (fun s42_ a42_ gs42 ga42 t42 u42 => ?_)
                have fs42 : ∀ j, j ≠ 23 → s42_ j = s0 j := fun j hj => by rw [gs42 j hj]; exact fs36 j hj
                have fa42 : ∀ j, j ≠ 11 → a42_ j = a0 j := fun j hj => by rw [ga42 j hj]; exact fa36 j hj
                show pm_E _ _ _ 285 [(0, .ref 18), (1, .int (iI i)), (2, .int (iI ((a36_ 4) (i))))] [] _ _ _ _
                refine pm_e_goto pm_a169_285 rfl ?_
                show pm_E _ _ _ 338 [(0, .ref 18), (1, .int (iI i)), (2, .int (iI ((a36_ 4) (i))))] [] _ _ _ _
                refine pm_e_inc (y := iI (i + 1)) pm_a169_338 rfl (iI_add _ _) (by decide +kernel) rfl ?_
                show pm_E _ _ _ 341 [(0, .ref 18), (1, .int (iI (i + 1))), (2, .int (iI ((a36_ 4) (i))))] [] _ _ _ _
                refine pm_e_goto pm_a169_341 rfl ?_
                show pm_E _ _ _ 151 [(0, .ref 18), (1, .int (iI (i + 1))), (2, .int (iI ((a36_ 4) (i))))] [] _ _ _ _
                show pm_E _ _ _ 151 ([(0, .ref 18), (1, .int (iI (i + 1)))] ++ [(2, .int (iI ((a36_ 4) (i))))]) [] _ _ _ _
                refine pm_e_more [(2, .int (iI ((a36_ 4) (i))))] (show ([0, 1, 2] : List Nat).Nodup from by decide) ?_
                exact ih (i + 1) s42_ a42_ (by omega) (by omega) fs42 fa42 (by omega) (by omega) kk (by omega)
            · skip
              show pm_E _ _ _ 237 [(0, .ref 18), (1, .int (iI i)), (2, .int (iI ((a36_ 4) (i))))] [] _ _ _ _
              refine pm_e_sim pm_a169_237 rfl ?_
              show pm_E _ _ _ 238 [(0, .ref 18), (1, .int (iI i)), (2, .int (iI ((a36_ 4) (i))))] [.ref 18] _ _ _ _
              refine pm_e_sim pm_a169_238 rfl ?_
              refine pm_e_top (y := iI 92) (by decide +kernel) ?_
              show pm_E _ _ _ 240 [(0, .ref 18), (1, .int (iI i)), (2, .int (iI ((a36_ 4) (i))))] [.int (iI 92), .ref 18] _ _ _ _
              refine pm_i_callv (k := 18) (T2 := pm_mm172) pm_a169_240 rfl rfl rfl (mh_get (j := 0) hA rfl) ⟨Nat.le_of_ble_eq_true rfl, Nat.le_of_ble_eq_true rfl, rfl, by decide +kernel⟩ ?_
              show pm_E none _ _ 0 [(0, .ref 18), (1, .int (iI 92))] [] _ _ _ _
              refine M_say hA (by omega) (by omega) ?_
              obtain ⟨s43_, es43⟩ : ∃ z, z = updS s36_ 23 (s36_ 23 + 1) := ⟨_, rfl⟩
              obtain ⟨a43_, ea43⟩ : ∃ z, z = updA a36_ 11 (updI (a36_ 11) (s36_ 23) (92)) := ⟨_, rfl⟩
              rw [← es43, ← ea43]
              have fs43 : ∀ j, j ≠ 23 → s43_ j = s0 j := fun j hj => by rw [es43]; simp [updS, hj, fs36 j hj]
              have fa43 : ∀ j, j ≠ 11 → a43_ j = a0 j := fun j hj => by rw [ea43]; simp [updA, hj, fa36 j hj]
              have t43 : s43_ 23 = s36_ 23 + 1 := by rw [es43]; rfl
              have x6_43 := fs43 6 (by omega)
              have x4_43 : a43_ 4 = a0 4 := fa43 4 (by omega)
              have x5_43 : a43_ 5 = a0 5 := fa43 5 (by omega)
              have x12_43 : a43_ 12 = a0 12 := fa43 12 (by omega)
              have x13_43 : a43_ 13 = a0 13 := fa43 13 (by omega)
              have y4_43 : a43_ 4 i = a0 4 i := by rw [x4_43]
              have y5_43 : a43_ 5 i = a0 5 i := by rw [x5_43]
              have y13_43 : a43_ 13 i = a0 13 i := by rw [x13_43]
              show pm_E _ _ _ 243 [(0, .ref 18), (1, .int (iI i)), (2, .int (iI ((a36_ 4) (i))))] [] _ _ _ _
              refine pm_e_sim pm_a169_243 rfl ?_
              show pm_E _ _ _ 244 [(0, .ref 18), (1, .int (iI i)), (2, .int (iI ((a36_ 4) (i))))] [.ref 18] _ _ _ _
              refine pm_e_sim pm_a169_244 rfl ?_
              show pm_E _ _ _ 245 [(0, .ref 18), (1, .int (iI i)), (2, .int (iI ((a36_ 4) (i))))] [.ref 18, .ref 18] _ _ _ _
              refine pm_i_get pm_a169_245 rfl (mh_get (j := 0) hA rfl) rfl ?_
              show pm_E _ _ _ 248 [(0, .ref 18), (1, .int (iI i)), (2, .int (iI ((a36_ 4) (i))))] [.ref 23, .ref 18] _ _ _ _
              refine pm_e_sim pm_a169_248 rfl ?_
              show pm_E _ _ _ 249 [(0, .ref 18), (1, .int (iI i)), (2, .int (iI ((a36_ 4) (i))))] [.int (iI i), .ref 23, .ref 18] _ _ _ _
              refine pm_i_ald pm_a169_249 (mh_get (j := 5) hA rfl) (by omega) (by omega) ⟨by omega, by omega⟩ ?_
              show pm_E _ _ _ 250 [(0, .ref 18), (1, .int (iI i)), (2, .int (iI ((a36_ 4) (i))))] [.int (iI ((a43_ 5) (i))), .ref 18] _ _ _ _
              refine pm_i_callv (k := 18) (T2 := pm_mm173) pm_a169_250 rfl rfl rfl (mh_get (j := 0) hA rfl) ⟨Nat.le_of_ble_eq_true rfl, Nat.le_of_ble_eq_true rfl, rfl, by decide +kernel⟩ ?_
              show pm_E none _ _ 0 [(0, .ref 18), (1, .int (iI ((a43_ 5) (i))))] [] _ _ _ _
              refine M_sayName hA ⟨by omega, by omega⟩ (by omega) (by omega) (fun s44_ a44_ gs44 ga44 t44 u44 => ?_)
              have fs44 : ∀ j, j ≠ 23 → s44_ j = s0 j := fun j hj => by rw [gs44 j hj]; exact fs43 j hj
              have fa44 : ∀ j, j ≠ 11 → a44_ j = a0 j := fun j hj => by rw [ga44 j hj]; exact fa43 j hj
              show pm_E _ _ _ 253 [(0, .ref 18), (1, .int (iI i)), (2, .int (iI ((a36_ 4) (i))))] [] _ _ _ _
              refine pm_e_sim pm_a169_253 rfl ?_
              show pm_E _ _ _ 254 [(0, .ref 18), (1, .int (iI i)), (2, .int (iI ((a36_ 4) (i))))] [.ref 18] _ _ _ _
              refine pm_e_sim pm_a169_254 rfl ?_
              refine pm_e_top (y := iI 46) (by decide +kernel) ?_
              show pm_E _ _ _ 256 [(0, .ref 18), (1, .int (iI i)), (2, .int (iI ((a36_ 4) (i))))] [.int (iI 46), .ref 18] _ _ _ _
              refine pm_i_callv (k := 18) (T2 := pm_mm172) pm_a169_256 rfl rfl rfl (mh_get (j := 0) hA rfl) ⟨Nat.le_of_ble_eq_true rfl, Nat.le_of_ble_eq_true rfl, rfl, by decide +kernel⟩ ?_
              show pm_E none _ _ 0 [(0, .ref 18), (1, .int (iI 46))] [] _ _ _ _
              refine M_say hA (by omega) (by omega) ?_
              obtain ⟨s45_, es45⟩ : ∃ z, z = updS s44_ 23 (s44_ 23 + 1) := ⟨_, rfl⟩
              obtain ⟨a45_, ea45⟩ : ∃ z, z = updA a44_ 11 (updI (a44_ 11) (s44_ 23) (46)) := ⟨_, rfl⟩
              rw [← es45, ← ea45]
              have fs45 : ∀ j, j ≠ 23 → s45_ j = s0 j := fun j hj => by rw [es45]; simp [updS, hj, fs44 j hj]
              have fa45 : ∀ j, j ≠ 11 → a45_ j = a0 j := fun j hj => by rw [ea45]; simp [updA, hj, fa44 j hj]
              have t45 : s45_ 23 = s44_ 23 + 1 := by rw [es45]; rfl
              have x6_45 := fs45 6 (by omega)
              have x4_45 : a45_ 4 = a0 4 := fa45 4 (by omega)
              have x5_45 : a45_ 5 = a0 5 := fa45 5 (by omega)
              have x12_45 : a45_ 12 = a0 12 := fa45 12 (by omega)
              have x13_45 : a45_ 13 = a0 13 := fa45 13 (by omega)
              have y4_45 : a45_ 4 i = a0 4 i := by rw [x4_45]
              have y5_45 : a45_ 5 i = a0 5 i := by rw [x5_45]
              have y13_45 : a45_ 13 i = a0 13 i := by rw [x13_45]
              show pm_E _ _ _ 259 [(0, .ref 18), (1, .int (iI i)), (2, .int (iI ((a36_ 4) (i))))] [] _ _ _ _
              refine pm_e_goto pm_a169_259 rfl ?_
              show pm_E _ _ _ 338 [(0, .ref 18), (1, .int (iI i)), (2, .int (iI ((a36_ 4) (i))))] [] _ _ _ _
              refine pm_e_inc (y := iI (i + 1)) pm_a169_338 rfl (iI_add _ _) (by decide +kernel) rfl ?_
              show pm_E _ _ _ 341 [(0, .ref 18), (1, .int (iI (i + 1))), (2, .int (iI ((a36_ 4) (i))))] [] _ _ _ _
              refine pm_e_goto pm_a169_341 rfl ?_
              show pm_E _ _ _ 151 [(0, .ref 18), (1, .int (iI (i + 1))), (2, .int (iI ((a36_ 4) (i))))] [] _ _ _ _
              show pm_E _ _ _ 151 ([(0, .ref 18), (1, .int (iI (i + 1)))] ++ [(2, .int (iI ((a36_ 4) (i))))]) [] _ _ _ _
              refine pm_e_more [(2, .int (iI ((a36_ 4) (i))))] (show ([0, 1, 2] : List Nat).Nodup from by decide) ?_
              exact ih (i + 1) s45_ a45_ (by omega) (by omega) fs45 fa45 (by omega) (by omega) kk (by omega)
set_option maxHeartbeats 4000000 in
set_option maxRecDepth 100000 in
theorem M_sayTerm {d : Nat} {A B : List va_E} {s : Nat → Int} {vl : Int64} {a : Nat → Int → Int} {nm : Nat → Int64} {Q : Option Value → List va_E → Nat → Nat → Prop} {ff : Nat} {kk : Int} (hA : A.length = 18) (h6 : 1 ≤ s 6) (h61 : s 6 ≤ 500) (hr : ∀ j, in32 (a 4 j)) (hb : ∀ j, in32 (a 12 j)) (ho : ∀ j, in32 (a 13 j)) (ht : tm (a 4) ff kk 0 (s 6)) (k : ∀ s' a', (∀ j, j ≠ 23 → s' j = s j) → (∀ j, j ≠ 11 → j ≠ 5 → j ≠ 6 → j ≠ 12 → j ≠ 13 → j ≠ 14 → a' j = a j) → 0 ≤ s' 23 → s' 23 ≤ 5000 → Q none (mh A s' vl a' nm B) 0 0) : pm_E none (d + 2) pm_mm169 0 [(0, .ref 18)] [] (mh A s vl a nm B) 0 0 Q := by
  refine pm_e_sim pm_a169_0 rfl ?_
  refine pm_e_top (y := iI 0) (by decide +kernel) ?_
  show pm_E _ _ _ 1 [(0, .ref 18)] [.int (iI 0)] _ _ _ _
  refine pm_e_sim pm_a169_1 rfl ?_
  show pm_E _ _ _ 2 [(0, .ref 18), (1, .int (iI 0))] [] _ _ _ _
  refine M_sayTerm_1 (a0 := a) hA (by omega) (by omega) (s 6 + 2).toNat 0 a (by omega) (by omega) (fun j _ _ _ => rfl) hb ho (fun j z y => by omega) ?_ (by omega)
  intro a1 fA1 hb1 ho1 hc1 i1
  refine pm_e_sim pm_a169_37 rfl ?_
  refine pm_e_top (y := iI 0) (by decide +kernel) ?_
  show pm_E _ _ _ 38 [(0, .ref 18), (1, .int (iI i1))] [.int (iI 0)] _ _ _ _
  refine pm_e_sim pm_a169_38 rfl ?_
  show pm_E _ _ _ 39 [(0, .ref 18), (1, .int (iI 0))] [] _ _ _ _
  refine M_sayTerm_2 (a0 := a) hA (by omega) (by omega) ht hr (s 6 + 1).toNat 0 a1 (by omega) (by omega) fA1 hb1 ho1 (fun j z y => by rw [hc1 j z y]; omega) ?_ ?_ (by omega)
  · rw [sum9_eq (g := fun _ => 0) (fun j z y => hc1 j z (by omega))]
    have : ∀ n : Nat, sum9 (fun _ => 0) n = 0 := fun n => by induction n with | zero => rfl | succ n ih => show sum9 (fun _ => 0) n + 0 = 0; omega
    rw [this]; omega
  intro a2 fA2 hb2 ho2 hc2 hs2 p2
  refine pm_e_sim pm_a169_139 rfl ?_
  show pm_E _ _ _ 140 [(0, .ref 18), (1, .int (iI p2))] [.ref 18] _ _ _ _
  refine pm_e_sim pm_a169_140 rfl ?_
  refine pm_e_top (y := iI 0) (by decide +kernel) ?_
  show pm_E _ _ _ 141 [(0, .ref 18), (1, .int (iI p2))] [.int (iI 0), .ref 18] _ _ _ _
  refine pm_i_callv (k := 18) (T2 := pm_mm171) pm_a169_141 rfl rfl rfl (mh_get (j := 0) hA rfl) ⟨Nat.le_of_ble_eq_true rfl, Nat.le_of_ble_eq_true rfl, rfl, by decide +kernel⟩ ?_
  show pm_E none _ _ 0 [(0, .ref 18), (1, .int (iI 0))] [] _ _ _ _
  have g4 : a2 4 = a 4 := fA2 4 (by omega) (by omega) (by omega)
  refine M_depT hA (by rw [g4]; exact hr) (by rw [g4]; exact ht) (by omega) (by omega) (fun P D _ dD => ?_)
  have dI := dp_in dD
  show pm_E _ _ _ 144 [(0, .ref 18), (1, .int (iI p2))] [] _ _ _ _
  refine pm_e_sim pm_a169_144 rfl ?_
  show pm_E _ _ _ 145 [(0, .ref 18), (1, .int (iI p2))] [.ref 18] _ _ _ _
  refine pm_e_sim pm_a169_145 rfl ?_
  refine pm_e_top (y := iI 0) (by decide +kernel) ?_
  show pm_E _ _ _ 146 [(0, .ref 18), (1, .int (iI p2))] [.int (iI 0), .ref 18] _ _ _ _
  refine pm_i_put pm_a169_146 rfl (mh_get (j := 0) hA rfl) rfl (Nat.le_of_ble_eq_true rfl) (Or.inl rfl) (mw_23 hA _) ?_
  show pm_E _ _ _ 149 [(0, .ref 18), (1, .int (iI p2))] [] _ _ _ _
  refine pm_e_sim pm_a169_149 rfl ?_
  refine pm_e_top (y := iI 0) (by decide +kernel) ?_
  show pm_E _ _ _ 150 [(0, .ref 18), (1, .int (iI p2))] [.int (iI 0)] _ _ _ _
  refine pm_e_sim pm_a169_150 rfl ?_
  show pm_E _ _ _ 151 [(0, .ref 18), (1, .int (iI 0))] [] _ _ _ _
  refine M_sayTerm_3 (s0 := updS s 23 0) (a0 := updA (updA a2 5 D) 6 P) hA (by show 0 ≤ s 6; omega) (by show s 6 ≤ 500; omega) (by show ∀ j, in32 (a2 4 j); rw [g4]; exact hr) hb2 ho2 (fun j z y => by have := dI j z y; show 0 ≤ D j ∧ D j ≤ 1000; replace y : j < s 6 := y; omega) hc2 hs2 (s 6 + 2).toNat 0 _ _ (by omega) (by show (0 : Int) ≤ s 6 + 1; omega) (fun j _ => rfl) (fun j _ => rfl) (by show (0 : Int) ≤ 0; omega) (by show (0 : Int) ≤ 6 * 0 + 0; omega) ?_ (by show s 6 + 1 - 0 < _; omega)
  intro s3 a3 fS3 fA3 h3 h4
  refine k s3 a3 (fun j hj => by rw [fS3 j hj]; simp [updS, hj]) (fun j j1 j2 j3 j4 j5 j6 => by rw [fA3 j j1]; simp [updA, j2, j3, fA2 j j4 j5 j6]) h3 h4
set_option maxHeartbeats 4000000 in
set_option maxRecDepth 100000 in
theorem M_letter {d : Nat} {A B : List va_E} {s : Nat → Int} {vl : Int64} {a : Nat → Int → Int} {nm : Nat → Int64} {Q : Option Value → List va_E → Nat → Nat → Prop} {n x : Int} {T : Int → List Int} {i : Int} (hA : A.length = 18) (hin : ∀ i j, in32 (a i j)) (hok : okT n T) (hsh : sh s a n T) (hx : in32 x) (hi : in32 i) (k : ∀ r s' a', s' 0 = s 0 → (s' 4 = s 4 ∧ s' 45 = s 45 ∧ s' 30 = s 30 ∧ s' 31 = s 31 ∧ s' 13 = s 13) → a' 1 = a 1 → a' 2 = a 2 → a' 3 = a 3 → Q (some (.int (iI r))) (mh A s' vl a' nm B) 0 0) : pm_E none (d + 3) pm_mm167 0 [(0, .ref 18), (1, .int (iI x)), (2, .int (iI i))] [] (mh A s vl a nm B) 0 0 Q := by
  obtain ⟨on0, on1, okk⟩ := id hok
  have s0 := hsh.1
  refine pm_e_sim pm_a167_0 rfl ?_
  show pm_E _ _ _ 1 [(0, .ref 18), (1, .int (iI x)), (2, .int (iI i))] [.ref 18] _ _ _ _
  refine pm_e_sim pm_a167_1 rfl ?_
  show pm_E _ _ _ 2 [(0, .ref 18), (1, .int (iI x)), (2, .int (iI i))] [.int (iI x), .ref 18] _ _ _ _
  refine pm_i_callv (k := 18) (T2 := pm_mm165) pm_a167_2 rfl rfl rfl (mh_get (j := 0) hA rfl) ⟨Nat.le_of_ble_eq_true rfl, Nat.le_of_ble_eq_true rfl, rfl, by decide +kernel⟩ ?_
  show pm_E none _ _ 0 [(0, .ref 18), (1, .int (iI x))] [] _ _ _ _
  refine M_isTerm hA ⟨by omega, by omega⟩ (by omega) (by omega) (fun h_1 => ?_) (fun h_1 => ?_)
  · skip
    show pm_E _ _ _ 5 [(0, .ref 18), (1, .int (iI x)), (2, .int (iI i))] [.int (iI 1)] _ _ _ _
    refine pm_e_ift pm_a167_5 rfl (by decide +kernel) ?_
    show pm_E _ _ _ 10 [(0, .ref 18), (1, .int (iI x)), (2, .int (iI i))] [] _ _ _ _
    refine pm_e_sim pm_a167_10 rfl ?_
    show pm_E _ _ _ 11 [(0, .ref 18), (1, .int (iI x)), (2, .int (iI i))] [.ref 18] _ _ _ _
    refine pm_e_sim pm_a167_11 rfl ?_
    show pm_E _ _ _ 12 [(0, .ref 18), (1, .int (iI x)), (2, .int (iI i))] [.int (iI x), .ref 18] _ _ _ _
    refine pm_i_callv (k := 18) (T2 := pm_mm168) pm_a167_12 rfl rfl rfl (mh_get (j := 0) hA rfl) ⟨Nat.le_of_ble_eq_true rfl, Nat.le_of_ble_eq_true rfl, rfl, by decide +kernel⟩ ?_
    show pm_E none _ _ 0 [(0, .ref 18), (1, .int (iI x))] [] _ _ _ _
    obtain ⟨tl, ft, tt⟩ := hok.2.2 x (by omega) (by omega)
    have tp := tL_pos tt
    have ts := (hsh.2 x (by omega) (by omega)).1
    have tk := sh_take hsh (x := x) (by omega) (by omega)
    refine M_take hA (by omega) (by omega) (by omega) (by omega) (fun s1 a1 es ea => ?_)
    have e6 : s1 6 = (T x).length := by rw [es, ← ts]; rfl
    have t1 : tm (a1 4) ft 0 0 (s1 6) := by rw [e6, ea]; exact tL_tm0 tt tk
    have hr1 : ∀ j, in32 (a1 4 j) := fun j => by rw [ea]; exact cpI_in (hin 4) (hin 2) j
    have g1 : rg (a1 4) (T x).length 0 = T x := by rw [ea]; exact tk
    show pm_E _ _ _ 15 [(0, .ref 18), (1, .int (iI x)), (2, .int (iI i))] [] _ _ _ _
    refine pm_e_sim pm_a167_15 rfl ?_
    show pm_E _ _ _ 16 [(0, .ref 18), (1, .int (iI x)), (2, .int (iI i))] [.ref 18] _ _ _ _
    refine pm_i_callv (k := 18) (T2 := pm_mm169) pm_a167_16 rfl rfl rfl (mh_get (j := 0) hA rfl) ⟨Nat.le_of_ble_eq_true rfl, Nat.le_of_ble_eq_true rfl, rfl, by decide +kernel⟩ ?_
    show pm_E none _ _ 0 [(0, .ref 18)] [] _ _ _ _
    refine M_sayTerm hA (by omega) (by omega) hr1 (fun j => by rw [ea]; exact hin 12 j) (fun j => by rw [ea]; exact hin 13 j) t1 (fun s2 a2 fS fA h3 h4 => ?_)
    show pm_E _ _ _ 19 [(0, .ref 18), (1, .int (iI x)), (2, .int (iI i))] [] _ _ _ _
    refine pm_e_sim pm_a167_19 rfl ?_
    show pm_E _ _ _ 20 [(0, .ref 18), (1, .int (iI x)), (2, .int (iI i))] [.int (iI i)] _ _ _ _
    refine pm_e_sim pm_a167_20 rfl ?_
    refine pm_l_top (y := lI (i)) (iI_l ⟨by omega, by omega⟩) ?_
    show pm_E _ _ _ 21 [(0, .ref 18), (1, .int (iI x)), (2, .int (iI i))] [.long (lI i)] _ _ _ _
    refine pm_e_sim pm_a167_21 rfl ?_
    refine pm_l_top (y := lI 0) (by decide +kernel) ?_
    show pm_E _ _ _ 22 [(0, .ref 18), (1, .int (iI x)), (2, .int (iI i))] [.long (lI 0), .long (lI i)] _ _ _ _
    refine pm_e_sim pm_a167_22 rfl ?_
    show pm_E _ _ _ 23 [(0, .ref 18), (1, .int (iI x)), (2, .int (iI i))] [.ref 18, .long (lI 0), .long (lI i)] _ _ _ _
    refine pm_i_get pm_a167_23 rfl (mh_get (j := 0) hA rfl) rfl ?_
    show pm_E _ _ _ 26 [(0, .ref 18), (1, .int (iI x)), (2, .int (iI i))] [.int (iI (s2 23)), .long (lI 0), .long (lI i)] _ _ _ _
    refine pm_e_sim pm_a167_26 rfl ?_
    refine pm_l_top (y := lI (s2 23)) (iI_l ⟨by omega, by omega⟩) ?_
    show pm_E _ _ _ 27 [(0, .ref 18), (1, .int (iI x)), (2, .int (iI i))] [.long (lI (s2 23)), .long (lI 0), .long (lI i)] _ _ _ _
    refine pm_e_call (T2 := pm_mm147) pm_a167_27 rfl rfl rfl rfl rfl rfl rfl rfl rfl ?_
    show pm_E none _ _ 0 [(0, .long (lI i)), (2, .long (lI 0)), (4, .long (lI (s2 23)))] [] _ _ _ _
    refine M_in ⟨by omega, by omega⟩ ⟨by omega, by omega⟩ ⟨by omega, by omega⟩ (fun h_2 => ?_) (fun h_2 => ?_)
    · skip
      show pm_E _ _ _ 30 [(0, .ref 18), (1, .int (iI x)), (2, .int (iI i))] [.int (iI 1)] _ _ _ _
      refine pm_e_ift pm_a167_30 rfl (by decide +kernel) ?_
      show pm_E _ _ _ 35 [(0, .ref 18), (1, .int (iI x)), (2, .int (iI i))] [] _ _ _ _
      refine pm_e_sim pm_a167_35 rfl ?_
      show pm_E _ _ _ 36 [(0, .ref 18), (1, .int (iI x)), (2, .int (iI i))] [.int (iI i)] _ _ _ _
      refine pm_e_sim pm_a167_36 rfl ?_
      show pm_E _ _ _ 37 [(0, .ref 18), (1, .int (iI x)), (2, .int (iI i))] [.ref 18, .int (iI i)] _ _ _ _
      refine pm_i_get pm_a167_37 rfl (mh_get (j := 0) hA rfl) rfl ?_
      show pm_E _ _ _ 40 [(0, .ref 18), (1, .int (iI x)), (2, .int (iI i))] [.int (iI (s2 23)), .int (iI i)] _ _ _ _
      refine pm_c_ne (t := 47) pm_a167_40 rfl ⟨by omega, by omega⟩ ⟨by omega, by omega⟩ (fun h_3 => ?_) (fun h_3 => ?_)
      · skip
        show pm_E _ _ _ 47 [(0, .ref 18), (1, .int (iI x)), (2, .int (iI i))] [] _ _ _ _
        refine pm_e_sim pm_a167_47 rfl ?_
        show pm_E _ _ _ 48 [(0, .ref 18), (1, .int (iI x)), (2, .int (iI i))] [.ref 18] _ _ _ _
        refine pm_i_get pm_a167_48 rfl (mh_get (j := 0) hA rfl) rfl ?_
        show pm_E _ _ _ 51 [(0, .ref 18), (1, .int (iI x)), (2, .int (iI i))] [.ref 29] _ _ _ _
        refine pm_e_sim pm_a167_51 rfl ?_
        show pm_E _ _ _ 52 [(0, .ref 18), (1, .int (iI x)), (2, .int (iI i))] [.int (iI i), .ref 29] _ _ _ _
        refine pm_i_ald pm_a167_52 (mh_get (j := 11) hA rfl) (by omega) (by omega) ⟨by omega, by omega⟩ ?_
        show pm_E _ _ _ 53 [(0, .ref 18), (1, .int (iI x)), (2, .int (iI i))] [.int (iI ((a2 11) (i)))] _ _ _ _
        refine pm_e_ret pm_a167_53 rfl rfl rfl rfl rfl rfl rfl rfl ?_
        first | exact k _ s a rfl ⟨rfl, rfl, rfl, rfl, rfl⟩ rfl rfl rfl | exact k _ s2 a2 (by rw [fS 0 (by omega), es]; rfl) ⟨by rw [fS 4 (by omega), es]; rfl, by rw [fS 45 (by omega), es]; rfl, by rw [fS 30 (by omega), es]; rfl, by rw [fS 31 (by omega), es]; rfl, by rw [fS 13 (by omega), es]; rfl⟩ (by rw [fA 1 (by omega) (by omega) (by omega) (by omega) (by omega) (by omega), ea]; rfl) (by rw [fA 2 (by omega) (by omega) (by omega) (by omega) (by omega) (by omega), ea]; rfl) (by rw [fA 3 (by omega) (by omega) (by omega) (by omega) (by omega) (by omega), ea]; rfl)
      · skip
        show pm_E _ _ _ 43 [(0, .ref 18), (1, .int (iI x)), (2, .int (iI i))] [] _ _ _ _
        refine pm_e_sim pm_a167_43 rfl ?_
        refine pm_e_top (y := iI 0) (by decide +kernel) ?_
        show pm_E _ _ _ 44 [(0, .ref 18), (1, .int (iI x)), (2, .int (iI i))] [.int (iI 0)] _ _ _ _
        refine pm_e_goto pm_a167_44 rfl ?_
        show pm_E _ _ _ 53 [(0, .ref 18), (1, .int (iI x)), (2, .int (iI i))] [.int (iI 0)] _ _ _ _
        refine pm_e_ret pm_a167_53 rfl rfl rfl rfl rfl rfl rfl rfl ?_
        first | exact k _ s a rfl ⟨rfl, rfl, rfl, rfl, rfl⟩ rfl rfl rfl | exact k _ s2 a2 (by rw [fS 0 (by omega), es]; rfl) ⟨by rw [fS 4 (by omega), es]; rfl, by rw [fS 45 (by omega), es]; rfl, by rw [fS 30 (by omega), es]; rfl, by rw [fS 31 (by omega), es]; rfl, by rw [fS 13 (by omega), es]; rfl⟩ (by rw [fA 1 (by omega) (by omega) (by omega) (by omega) (by omega) (by omega), ea]; rfl) (by rw [fA 2 (by omega) (by omega) (by omega) (by omega) (by omega) (by omega), ea]; rfl) (by rw [fA 3 (by omega) (by omega) (by omega) (by omega) (by omega) (by omega), ea]; rfl)
    · skip
      show pm_E _ _ _ 30 [(0, .ref 18), (1, .int (iI x)), (2, .int (iI i))] [.int (iI 0)] _ _ _ _
      refine pm_e_iff pm_a167_30 rfl (by decide +kernel) ?_
      show pm_E _ _ _ 33 [(0, .ref 18), (1, .int (iI x)), (2, .int (iI i))] [] _ _ _ _
      refine pm_e_sim pm_a167_33 rfl ?_
      refine pm_e_top (y := iI (-1)) (by decide +kernel) ?_
      show pm_E _ _ _ 34 [(0, .ref 18), (1, .int (iI x)), (2, .int (iI i))] [.int (iI (-1))] _ _ _ _
      refine pm_e_ret pm_a167_34 rfl rfl rfl rfl rfl rfl rfl rfl ?_
      first | exact k _ s a rfl ⟨rfl, rfl, rfl, rfl, rfl⟩ rfl rfl rfl | exact k _ s2 a2 (by rw [fS 0 (by omega), es]; rfl) ⟨by rw [fS 4 (by omega), es]; rfl, by rw [fS 45 (by omega), es]; rfl, by rw [fS 30 (by omega), es]; rfl, by rw [fS 31 (by omega), es]; rfl, by rw [fS 13 (by omega), es]; rfl⟩ (by rw [fA 1 (by omega) (by omega) (by omega) (by omega) (by omega) (by omega), ea]; rfl) (by rw [fA 2 (by omega) (by omega) (by omega) (by omega) (by omega) (by omega), ea]; rfl) (by rw [fA 3 (by omega) (by omega) (by omega) (by omega) (by omega) (by omega), ea]; rfl)
  · skip
    show pm_E _ _ _ 5 [(0, .ref 18), (1, .int (iI x)), (2, .int (iI i))] [.int (iI 0)] _ _ _ _
    refine pm_e_iff pm_a167_5 rfl (by decide +kernel) ?_
    show pm_E _ _ _ 8 [(0, .ref 18), (1, .int (iI x)), (2, .int (iI i))] [] _ _ _ _
    refine pm_e_sim pm_a167_8 rfl ?_
    refine pm_e_top (y := iI (-1)) (by decide +kernel) ?_
    show pm_E _ _ _ 9 [(0, .ref 18), (1, .int (iI x)), (2, .int (iI i))] [.int (iI (-1))] _ _ _ _
    refine pm_e_ret pm_a167_9 rfl rfl rfl rfl rfl rfl rfl rfl ?_
    first | exact k _ s a rfl ⟨rfl, rfl, rfl, rfl, rfl⟩ rfl rfl rfl | exact k _ s2 a2 (by rw [fS 0 (by omega), es]; rfl) ⟨by rw [fS 4 (by omega), es]; rfl, by rw [fS 45 (by omega), es]; rfl, by rw [fS 30 (by omega), es]; rfl, by rw [fS 31 (by omega), es]; rfl, by rw [fS 13 (by omega), es]; rfl⟩ (by rw [fA 1 (by omega) (by omega) (by omega) (by omega) (by omega) (by omega), ea]; rfl) (by rw [fA 2 (by omega) (by omega) (by omega) (by omega) (by omega) (by omega), ea]; rfl) (by rw [fA 3 (by omega) (by omega) (by omega) (by omega) (by omega) (by omega), ea]; rfl)
