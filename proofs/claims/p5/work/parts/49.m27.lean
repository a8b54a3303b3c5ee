/-! THE REFERENCE: becomes -/
/-- what the part from p to e becomes by a step of way w -/
def bec (g : Int → Int) (w p e : Int) (l : List Int) : Prop :=
  (w = 3 ∧ ∃ (m : Int) (f : Nat) (k : Int) (q : Int → Int), tm g f k (p + 2) m ∧ dp g q f 0 (p + 2) m ∧ l = rg (rsI g q (-1)) (m - (p + 2)).toNat (p + 2)) ∨
  (w ≠ 3 ∧ g (p + 1) = 1 ∧ ∃ (u : Int) (f1 : Nat) (k1 : Int) (f2 : Nat) (k2 : Int) (D q : Int → Int), tm g f1 k1 (p + 2) u ∧ tm g f2 k2 u e ∧ dp g D f1 0 (p + 2) u ∧ dp g q f2 0 u e ∧ l = bet g D q u (e - u).toNat (u - (p + 2)).toNat (p + 2)) ∨
  (w ≠ 3 ∧ g (p + 1) = 4 ∧ l = rg g (e - (p + 2)).toNat (p + 2)) ∨
  (w ≠ 3 ∧ g (p + 1) = 0 ∧ g (p + 2) = 3 ∧ ∃ (m : Int) (f : Nat) (k : Int), tm g f k (p + 3) m ∧ l = rg g (m - (p + 3)).toNat (p + 3)) ∨
  (w ≠ 3 ∧ g (p + 1) = 0 ∧ g (p + 2) = 0 ∧ g (p + 3) = 2 ∧ ∃ (b c : Int) (f : Nat) (k : Int), tm g f k (p + 4) b ∧ tm g f k b c ∧ tm g f k c e ∧ l = [0] ++ [0] ++ rg g (b - (p + 4)).toNat (p + 4) ++ rg g (e - c).toNat c ++ [0] ++ rg g (e - b).toNat b)
theorem tm_app {g : Int → Int} {f : Nat} {k p e : Int} (h : tm g f k p e) (h0 : g p = 0) : ∃ f' m, tm g f' k (p + 1) m ∧ tm g f' k m e ∧ f' + 1 = f := by
  cases f with
  | zero => exact h.elim
  | succ f =>
    rcases h with ⟨_, m, h1, h2⟩ | ⟨h1, _⟩ | ⟨h1, _⟩
    · exact ⟨f, m, h1, h2, rfl⟩
    · omega
    · omega
theorem tm_lam {g : Int → Int} {f : Nat} {k p e : Int} (h : tm g f k p e) (h0 : g p = 1) : ∃ f', tm g f' (k + 1) (p + 1) e ∧ f' + 1 = f := by
  cases f with
  | zero => exact h.elim
  | succ f =>
    rcases h with ⟨h1, _⟩ | ⟨_, h2⟩ | ⟨h1, _⟩
    · omega
    · exact ⟨f, h2, rfl⟩
    · omega
theorem tm_lf {g : Int → Int} {f : Nat} {k p e : Int} (h : tm g f k p e) (h0 : 2 ≤ g p) : e = p + 1 ∧ (g p ≤ 6 ∨ 10 ≤ g p ∧ g p < 10 + k) := by
  cases f with
  | zero => exact h.elim
  | succ f =>
    rcases h with ⟨h1, _⟩ | ⟨h1, _⟩ | ⟨_, h1, h2⟩
    · omega
    · omega
    · exact ⟨h2, h1⟩
theorem red_L {g : Int → Int} {f : Nat} {k p e : Int} (h : tm g f k p e) (h0 : g p = 0) (h1 : g (p + 1) = 1) : ∃ f' f2 u, tm g f' (k + 1) (p + 2) u ∧ tm g f2 k u e := by
  obtain ⟨f1, m, t1, t2, _⟩ := tm_app h h0
  obtain ⟨f2, t3, _⟩ := tm_lam t1 h1
  exact ⟨f2, f1, m, by rw [show p + 2 = p + 1 + 1 by omega]; exact t3, t2⟩
theorem red_I {g : Int → Int} {f : Nat} {k p e : Int} (h : tm g f k p e) (h0 : g p = 0) (h1 : g (p + 1) = 4) : ∃ f', tm g f' k (p + 2) e := by
  obtain ⟨f1, m, t1, t2, _⟩ := tm_app h h0
  obtain ⟨z, _⟩ := tm_lf t1 (by omega)
  exact ⟨f1, by rw [show p + 2 = m by omega]; exact t2⟩
theorem red_K {g : Int → Int} {f : Nat} {k p e : Int} (h : tm g f k p e) (h0 : g p = 0) (h1 : g (p + 1) = 0) (h2 : g (p + 2) = 3) : ∃ f' m, tm g f' k (p + 3) m ∧ tm g f' k m e := by
  obtain ⟨f1, m, t1, t2, _⟩ := tm_app h h0
  obtain ⟨f2, m2, t3, t4, _⟩ := tm_app t1 h1
  rw [show p + 1 + 1 = p + 2 by omega] at t3
  obtain ⟨z, _⟩ := tm_lf t3 (by omega)
  exact ⟨f1, m, by rw [show p + 3 = m2 by omega]; exact tm_le (by omega) t4, t2⟩
theorem red_S {g : Int → Int} {f : Nat} {k p e : Int} (h : tm g f k p e) (h0 : g p = 0) (h1 : g (p + 1) = 0) (h2 : g (p + 2) = 0) (h3 : g (p + 3) = 2) : ∃ f' b c, tm g f' k (p + 4) b ∧ tm g f' k b c ∧ tm g f' k c e := by
  obtain ⟨f1, m, t1, t2, _⟩ := tm_app h h0
  obtain ⟨f2, m2, t3, t4, _⟩ := tm_app t1 h1
  rw [show p + 1 + 1 = p + 2 by omega] at t3
  obtain ⟨f3, m3, t5, t6, _⟩ := tm_app t3 h2
  rw [show p + 2 + 1 = p + 3 by omega] at t5
  obtain ⟨z, _⟩ := tm_lf t5 (by omega)
  exact ⟨f1, m2, m, by rw [show p + 4 = m3 by omega]; exact tm_le (by omega) t6, tm_le (by omega) t4, t2⟩
theorem laL_2 {F : Int → Int} {n m : Int} {l l' : List Int} (h : m = n + (l.length : Int)) : laL (laL F n l) m l' = laL F n (l ++ l') := by rw [laL_app, h]
theorem rdx_c {g : Int → Int} {p : Int} (h : rdx g p = 1) : g p = 0 ∧ (g (p + 1) = 1 ∨ g (p + 1) = 4 ∨ (g (p + 1) = 0 ∧ (g (p + 2) = 3 ∨ (g (p + 2) = 0 ∧ g (p + 3) = 2)))) := by
  unfold rdx at h
  repeat' split at h
  all_goals omega
set_option maxHeartbeats 4000000 in
set_option maxRecDepth 100000 in
theorem M_becomes_c {d : Nat} {A B : List va_E} {s : Nat → Int} {vl : Int64} {a : Nat → Int → Int} {nm : Nat → Int64} {Q : Option Value → List va_E → Nat → Nat → Prop} {p w u e n : Int} {D P F : Int → Int} (hA : A.length = 18) (h0 : 0 ≤ u) (he : e ≤ 11900) : ∀ (f : Nat) (i : Int) (q : Int → Int), u ≤ i → i + f = e → (∀ j, j = e → pm_E none (d + 3) pm_mm186 51 [(0, .ref 18), (1, .int (iI p)), (2, .int (iI w)), (3, .int (iI e)), (4, .int (iI j))] [] (mh A (updS s 28 n) vl (u4 a D P (cpI q D 0 i e) F) nm B) 0 0 Q) → pm_E none (d + 3) pm_mm186 25 [(0, .ref 18), (1, .int (iI p)), (2, .int (iI w)), (3, .int (iI e)), (4, .int (iI i))] [] (mh A (updS s 28 n) vl (u4 a D P q F) nm B) 0 0 Q := by
  intro f
  induction f with
  | zero =>
    intro i q h1 h2 k
    refine pm_e_sim pm_a186_25 rfl ?_
    show pm_E _ _ _ 27 [(0, .ref 18), (1, .int (iI p)), (2, .int (iI w)), (3, .int (iI e)), (4, .int (iI i))] [.int (iI i)] _ _ _ _
    refine pm_e_sim pm_a186_27 rfl ?_
    show pm_E _ _ _ 28 [(0, .ref 18), (1, .int (iI p)), (2, .int (iI w)), (3, .int (iI e)), (4, .int (iI i))] [.int (iI e), .int (iI i)] _ _ _ _
    refine pm_c_ge (t := 51) pm_a186_28 rfl ⟨by omega, by omega⟩ ⟨by omega, by omega⟩ (fun h_1 => ?_) (fun h_1 => ?_)
    · skip
      show pm_E _ _ _ 51 [(0, .ref 18), (1, .int (iI p)), (2, .int (iI w)), (3, .int (iI e)), (4, .int (iI i))] [] _ _ _ _
      rw [cpI_0 (by omega)] at k
      exact k i (by omega)
    · skip
      exfalso; omega
  | succ f ih =>
    intro i q h1 h2 k
    refine pm_e_sim pm_a186_25 rfl ?_
    show pm_E _ _ _ 27 [(0, .ref 18), (1, .int (iI p)), (2, .int (iI w)), (3, .int (iI e)), (4, .int (iI i))] [.int (iI i)] _ _ _ _
    refine pm_e_sim pm_a186_27 rfl ?_
    show pm_E _ _ _ 28 [(0, .ref 18), (1, .int (iI p)), (2, .int (iI w)), (3, .int (iI e)), (4, .int (iI i))] [.int (iI e), .int (iI i)] _ _ _ _
    refine pm_c_ge (t := 51) pm_a186_28 rfl ⟨by omega, by omega⟩ ⟨by omega, by omega⟩ (fun h_1 => ?_) (fun h_1 => ?_)
    · skip
      exfalso; omega
    · skip
      show pm_E _ _ _ 31 [(0, .ref 18), (1, .int (iI p)), (2, .int (iI w)), (3, .int (iI e)), (4, .int (iI i))] [] _ _ _ _
      refine pm_e_sim pm_a186_31 rfl ?_
      show pm_E _ _ _ 32 [(0, .ref 18), (1, .int (iI p)), (2, .int (iI w)), (3, .int (iI e)), (4, .int (iI i))] [.ref 18] _ _ _ _
      refine pm_i_get pm_a186_32 rfl (mh_get (j := 0) hA rfl) rfl ?_
      show pm_E _ _ _ 35 [(0, .ref 18), (1, .int (iI p)), (2, .int (iI w)), (3, .int (iI e)), (4, .int (iI i))] [.ref 34] _ _ _ _
      refine pm_e_sim pm_a186_35 rfl ?_
      show pm_E _ _ _ 37 [(0, .ref 18), (1, .int (iI p)), (2, .int (iI w)), (3, .int (iI e)), (4, .int (iI i))] [.int (iI i), .ref 34] _ _ _ _
      refine pm_e_sim pm_a186_37 rfl ?_
      show pm_E _ _ _ 38 [(0, .ref 18), (1, .int (iI p)), (2, .int (iI w)), (3, .int (iI e)), (4, .int (iI i))] [.ref 18, .int (iI i), .ref 34] _ _ _ _
      refine pm_i_get pm_a186_38 rfl (mh_get (j := 0) hA rfl) rfl ?_
      show pm_E _ _ _ 41 [(0, .ref 18), (1, .int (iI p)), (2, .int (iI w)), (3, .int (iI e)), (4, .int (iI i))] [.ref 23, .int (iI i), .ref 34] _ _ _ _
      refine pm_e_sim pm_a186_41 rfl ?_
      show pm_E _ _ _ 43 [(0, .ref 18), (1, .int (iI p)), (2, .int (iI w)), (3, .int (iI e)), (4, .int (iI i))] [.int (iI i), .ref 23, .int (iI i), .ref 34] _ _ _ _
      refine pm_i_ald pm_a186_43 (mh_get (j := 5) hA rfl) (by omega) (by omega) ⟨by omega, by omega⟩ ?_
      show pm_E _ _ _ 44 [(0, .ref 18), (1, .int (iI p)), (2, .int (iI w)), (3, .int (iI e)), (4, .int (iI i))] [.int (iI ((D) (i))), .int (iI i), .ref 34] _ _ _ _
      refine pm_i_ast pm_a186_44 (mh_get (j := 16) hA rfl) (by omega) (by omega) ⟨by omega, by omega⟩ ((ma_16 hA _).trans (congrArg (fun z => mh A _ _ z _ B) (u4_16))) ?_
      show pm_E _ _ _ 45 [(0, .ref 18), (1, .int (iI p)), (2, .int (iI w)), (3, .int (iI e)), (4, .int (iI i))] [] _ _ _ _
      refine pm_e_inc (y := iI (i + 1)) pm_a186_45 rfl (iI_add _ _) (by decide +kernel) rfl ?_
      show pm_E _ _ _ 48 [(0, .ref 18), (1, .int (iI p)), (2, .int (iI w)), (3, .int (iI e)), (4, .int (iI (i + 1)))] [] _ _ _ _
      refine pm_e_goto pm_a186_48 rfl ?_
      show pm_E _ _ _ 25 [(0, .ref 18), (1, .int (iI p)), (2, .int (iI w)), (3, .int (iI e)), (4, .int (iI (i + 1)))] [] _ _ _ _
      rw [← cp0_step (by omega)] at k
      exact ih (i + 1) _ (by omega) (by omega) k
set_option maxHeartbeats 4000000 in
set_option maxRecDepth 100000 in
theorem M_becomes {d : Nat} {A B : List va_E} {s : Nat → Int} {vl : Int64} {a : Nat → Int → Int} {nm : Nat → Int64} {Q : Option Value → List va_E → Nat → Nat → Prop} {p w e kk n : Int} {D P q F : Int → Int} {ff : Nat} (hA : A.length = 18) (hr : ∀ j, in32 (a 4 j)) (tp : tm (a 4) ff kk p e) (ht3 : w = 3 → thn (a 4) p) (hrd : w ≠ 3 → rdx (a 4) p = 1) (hw0 : 0 ≤ w) (hw1 : w ≤ 3) (hp0 : 0 ≤ p) (he : e ≤ 11900) (hb : ∀ j, p ≤ j → j < e → 0 ≤ a 4 j ∧ a 4 j ≤ 100000) (hq : ∀ j, in32 (q j)) (hn0 : 0 ≤ n) (hn1 : n ≤ 12000) (k : ∀ D1 P1 q1 l N, bec (a 4) w p e l → (∀ j, in32 (q1 j)) → N = n + (l.length : Int) → Q none (mh A (updS s 28 N) vl (u4 a D1 P1 q1 (laL F n l)) nm B) 0 0) : pm_E none (d + 3) pm_mm186 0 [(0, .ref 18), (1, .int (iI p)), (2, .int (iI w))] [] (mh A (updS s 28 n) vl (u4 a D P q F) nm B) 0 0 Q := by
  have l0 := tm_lt tp
  by_cases hw3 : w = 3
  · skip
    refine pm_e_sim pm_a186_0 rfl ?_
    show pm_E _ _ _ 1 [(0, .ref 18), (1, .int (iI p)), (2, .int (iI w))] [.int (iI w)] _ _ _ _
    refine pm_e_sim pm_a186_1 rfl ?_
    refine pm_e_top (y := iI 3) (by decide +kernel) ?_
    show pm_E _ _ _ 2 [(0, .ref 18), (1, .int (iI p)), (2, .int (iI w))] [.int (iI 3), .int (iI w)] _ _ _ _
    refine pm_c_ne (t := 63) pm_a186_2 rfl ⟨by omega, by omega⟩ ⟨by omega, by omega⟩ (fun h_1 => ?_) (fun h_1 => ?_)
    · skip
      exfalso; omega
    · skip
      show pm_E _ _ _ 5 [(0, .ref 18), (1, .int (iI p)), (2, .int (iI w))] [] _ _ _ _
      refine pm_e_sim pm_a186_5 rfl ?_
      show pm_E _ _ _ 6 [(0, .ref 18), (1, .int (iI p)), (2, .int (iI w))] [.ref 18] _ _ _ _
      refine pm_e_sim pm_a186_6 rfl ?_
      show pm_E _ _ _ 7 [(0, .ref 18), (1, .int (iI p)), (2, .int (iI w))] [.int (iI p), .ref 18] _ _ _ _
      refine pm_e_sim pm_a186_7 rfl ?_
      refine pm_e_top (y := iI 2) (by decide +kernel) ?_
      show pm_E _ _ _ 8 [(0, .ref 18), (1, .int (iI p)), (2, .int (iI w))] [.int (iI 2), .int (iI p), .ref 18] _ _ _ _
      refine pm_e_sim pm_a186_8 rfl ?_
      refine pm_e_top (y := iI (p + 2)) (iI_add _ _) ?_
      show pm_E _ _ _ 9 [(0, .ref 18), (1, .int (iI p)), (2, .int (iI w))] [.int (iI (p + 2)), .ref 18] _ _ _ _
      refine pm_i_callv (k := 18) (T2 := pm_mm170) pm_a186_9 rfl rfl rfl (mh_get (j := 0) hA rfl) ⟨Nat.le_of_ble_eq_true rfl, Nat.le_of_ble_eq_true rfl, rfl, by decide +kernel⟩ ?_
      obtain ⟨h3a, h3b, _⟩ := ht3 (by omega)
      obtain ⟨f1, k1, m, t1, t2, _⟩ := tm_thin tp h3a h3b
      have l1 := tm_lt t1
      have l2 := tm_lt t2
      show pm_E none _ _ 0 [(0, .ref 18), (1, .int (iI (p + 2)))] [] _ _ _ _
      refine M_endT (a := u4 a D P q F) hA hr t1 (by omega) (by omega) ?_
      show pm_E _ _ _ 12 [(0, .ref 18), (1, .int (iI p)), (2, .int (iI w))] [.int (iI m)] _ _ _ _
      refine pm_e_sim pm_a186_12 rfl ?_
      show pm_E _ _ _ 13 [(0, .ref 18), (1, .int (iI p)), (2, .int (iI w)), (3, .int (iI m))] [] _ _ _ _
      refine pm_e_sim pm_a186_13 rfl ?_
      show pm_E _ _ _ 14 [(0, .ref 18), (1, .int (iI p)), (2, .int (iI w)), (3, .int (iI m))] [.ref 18] _ _ _ _
      refine pm_e_sim pm_a186_14 rfl ?_
      show pm_E _ _ _ 15 [(0, .ref 18), (1, .int (iI p)), (2, .int (iI w)), (3, .int (iI m))] [.int (iI p), .ref 18] _ _ _ _
      refine pm_e_sim pm_a186_15 rfl ?_
      refine pm_e_top (y := iI 2) (by decide +kernel) ?_
      show pm_E _ _ _ 16 [(0, .ref 18), (1, .int (iI p)), (2, .int (iI w)), (3, .int (iI m))] [.int (iI 2), .int (iI p), .ref 18] _ _ _ _
      refine pm_e_sim pm_a186_16 rfl ?_
      refine pm_e_top (y := iI (p + 2)) (iI_add _ _) ?_
      show pm_E _ _ _ 17 [(0, .ref 18), (1, .int (iI p)), (2, .int (iI w)), (3, .int (iI m))] [.int (iI (p + 2)), .ref 18] _ _ _ _
      refine pm_i_callv (k := 18) (T2 := pm_mm171) pm_a186_17 rfl rfl rfl (mh_get (j := 0) hA rfl) ⟨Nat.le_of_ble_eq_true rfl, Nat.le_of_ble_eq_true rfl, rfl, by decide +kernel⟩ ?_
      show pm_E none _ _ 0 [(0, .ref 18), (1, .int (iI (p + 2)))] [] _ _ _ _
      refine M_depT (a := u4 a D P q F) hA hr t1 (by omega) (by omega) (fun P0 D0 _ dD0 => ?_)
      refine pm_e_heap (show _ = mh A (updS s 28 n) vl (u4 a D0 P0 q F) nm B from by rw [u4_5, u4_6]) ?_
      replace dD0 : dp (a 4) D0 f1 0 (p + 2) m := dD0
      show pm_E _ _ _ 20 [(0, .ref 18), (1, .int (iI p)), (2, .int (iI w)), (3, .int (iI m))] [] _ _ _ _
      refine pm_e_sim pm_a186_20 rfl ?_
      show pm_E _ _ _ 21 [(0, .ref 18), (1, .int (iI p)), (2, .int (iI w)), (3, .int (iI m))] [.int (iI p)] _ _ _ _
      refine pm_e_sim pm_a186_21 rfl ?_
      refine pm_e_top (y := iI 2) (by decide +kernel) ?_
      show pm_E _ _ _ 22 [(0, .ref 18), (1, .int (iI p)), (2, .int (iI w)), (3, .int (iI m))] [.int (iI 2), .int (iI p)] _ _ _ _
      refine pm_e_sim pm_a186_22 rfl ?_
      refine pm_e_top (y := iI (p + 2)) (iI_add _ _) ?_
      show pm_E _ _ _ 23 [(0, .ref 18), (1, .int (iI p)), (2, .int (iI w)), (3, .int (iI m))] [.int (iI (p + 2))] _ _ _ _
      refine pm_e_sim pm_a186_23 rfl ?_
      show pm_E _ _ _ 25 [(0, .ref 18), (1, .int (iI p)), (2, .int (iI w)), (3, .int (iI m)), (4, .int (iI (p + 2)))] [] _ _ _ _
      refine M_becomes_c (u := p + 2) hA (by omega) (by omega) (m - (p + 2)).toNat (p + 2) q (by omega) (by omega) (fun j hj => ?_)
      have i0 := dp_in dD0
      have hq1 : ∀ j, in32 (cpI q D0 0 (p + 2) m j) := by
        intro j
        unfold cpI
        split
        · rename_i hj2; have := i0 j (by omega) (by omega); rw [show (0 : Int) + j = j by omega]; exact ⟨by omega, by omega⟩
        · exact hq j
      have dq1 : dp (a 4) (cpI q D0 0 (p + 2) m) f1 0 (p + 2) m := dp_congr (D := D0) (fun j z y => by unfold cpI; rw [if_pos ⟨z, y⟩, show (0 : Int) + j = j by omega]) dD0
      generalize cpI q D0 0 (p + 2) m = q1 at hq1 dq1 ⊢
      refine pm_e_sim pm_a186_51 rfl ?_
      show pm_E _ _ _ 52 [(0, .ref 18), (1, .int (iI p)), (2, .int (iI w)), (3, .int (iI m)), (4, .int (iI j))] [.ref 18] _ _ _ _
      refine pm_e_sim pm_a186_52 rfl ?_
      show pm_E _ _ _ 53 [(0, .ref 18), (1, .int (iI p)), (2, .int (iI w)), (3, .int (iI m)), (4, .int (iI j))] [.int (iI p), .ref 18] _ _ _ _
      refine pm_e_sim pm_a186_53 rfl ?_
      refine pm_e_top (y := iI 2) (by decide +kernel) ?_
      show pm_E _ _ _ 54 [(0, .ref 18), (1, .int (iI p)), (2, .int (iI w)), (3, .int (iI m)), (4, .int (iI j))] [.int (iI 2), .int (iI p), .ref 18] _ _ _ _
      refine pm_e_sim pm_a186_54 rfl ?_
      refine pm_e_top (y := iI (p + 2)) (iI_add _ _) ?_
      show pm_E _ _ _ 55 [(0, .ref 18), (1, .int (iI p)), (2, .int (iI w)), (3, .int (iI m)), (4, .int (iI j))] [.int (iI (p + 2)), .ref 18] _ _ _ _
      refine pm_e_sim pm_a186_55 rfl ?_
      show pm_E _ _ _ 56 [(0, .ref 18), (1, .int (iI p)), (2, .int (iI w)), (3, .int (iI m)), (4, .int (iI j))] [.int (iI m), .int (iI (p + 2)), .ref 18] _ _ _ _
      refine pm_e_sim pm_a186_56 rfl ?_
      refine pm_e_top (y := iI (-1)) (by decide +kernel) ?_
      show pm_E _ _ _ 57 [(0, .ref 18), (1, .int (iI p)), (2, .int (iI w)), (3, .int (iI m)), (4, .int (iI j))] [.int (iI (-1)), .int (iI m), .int (iI (p + 2)), .ref 18] _ _ _ _
      refine pm_i_callv (k := 18) (T2 := pm_mm187) pm_a186_57 rfl rfl rfl (mh_get (j := 0) hA rfl) ⟨Nat.le_of_ble_eq_true rfl, Nat.le_of_ble_eq_true rfl, rfl, by decide +kernel⟩ ?_
      show pm_E none _ _ 0 [(0, .ref 18), (1, .int (iI (p + 2))), (2, .int (iI m)), (3, .int (iI (-1)))] [] _ _ _ _
      refine M_addMoreT (n := n) (F := F) (q := q1) hA (by omega) (by omega) (by omega) (fun j z y => hb j (by omega) (by omega)) hq1 (by omega) (by omega) ?_
      show pm_E _ _ _ 60 [(0, .ref 18), (1, .int (iI p)), (2, .int (iI w)), (3, .int (iI m)), (4, .int (iI j))] [] _ _ _ _
      refine pm_e_goto pm_a186_60 rfl ?_
      show pm_E _ _ _ 206 [(0, .ref 18), (1, .int (iI p)), (2, .int (iI w)), (3, .int (iI m)), (4, .int (iI j))] [] _ _ _ _
      refine pm_e_ret pm_a186_206 rfl rfl rfl rfl rfl rfl rfl rfl ?_
      exact k D0 P0 q1 _ _ (Or.inl ⟨by omega, m, f1, _, q1, t1, dq1, rfl⟩) hq1 (by rw [rg_len]; omega)
  · skip
    obtain ⟨h0, hc⟩ := rdx_c (hrd hw3)
    obtain ⟨r10, r11⟩ := hr (p + 1)
    obtain ⟨r20, r21⟩ := hr (p + 2)
    refine pm_e_sim pm_a186_0 rfl ?_
    show pm_E _ _ _ 1 [(0, .ref 18), (1, .int (iI p)), (2, .int (iI w))] [.int (iI w)] _ _ _ _
    refine pm_e_sim pm_a186_1 rfl ?_
    refine pm_e_top (y := iI 3) (by decide +kernel) ?_
    show pm_E _ _ _ 2 [(0, .ref 18), (1, .int (iI p)), (2, .int (iI w))] [.int (iI 3), .int (iI w)] _ _ _ _
    refine pm_c_ne (t := 63) pm_a186_2 rfl ⟨by omega, by omega⟩ ⟨by omega, by omega⟩ (fun h_2 => ?_) (fun h_2 => ?_)
    · skip
      show pm_E _ _ _ 63 [(0, .ref 18), (1, .int (iI p)), (2, .int (iI w))] [] _ _ _ _
      refine pm_e_sim pm_a186_63 rfl ?_
      show pm_E _ _ _ 64 [(0, .ref 18), (1, .int (iI p)), (2, .int (iI w))] [.ref 18] _ _ _ _
      refine pm_i_get pm_a186_64 rfl (mh_get (j := 0) hA rfl) rfl ?_
      show pm_E _ _ _ 67 [(0, .ref 18), (1, .int (iI p)), (2, .int (iI w))] [.ref 22] _ _ _ _
      refine pm_e_sim pm_a186_67 rfl ?_
      show pm_E _ _ _ 68 [(0, .ref 18), (1, .int (iI p)), (2, .int (iI w))] [.int (iI p), .ref 22] _ _ _ _
      refine pm_e_sim pm_a186_68 rfl ?_
      refine pm_e_top (y := iI 1) (by decide +kernel) ?_
      show pm_E _ _ _ 69 [(0, .ref 18), (1, .int (iI p)), (2, .int (iI w))] [.int (iI 1), .int (iI p), .ref 22] _ _ _ _
      refine pm_e_sim pm_a186_69 rfl ?_
      refine pm_e_top (y := iI (p + 1)) (iI_add _ _) ?_
      show pm_E _ _ _ 70 [(0, .ref 18), (1, .int (iI p)), (2, .int (iI w))] [.int (iI (p + 1)), .ref 22] _ _ _ _
      refine pm_i_ald pm_a186_70 (mh_get (j := 4) hA rfl) (by omega) (by omega) ⟨by omega, by omega⟩ ?_
      show pm_E _ _ _ 71 [(0, .ref 18), (1, .int (iI p)), (2, .int (iI w))] [.int (iI ((a 4) (p + 1)))] _ _ _ _
      refine pm_e_sim pm_a186_71 rfl ?_
      refine pm_e_top (y := iI 1) (by decide +kernel) ?_
      show pm_E _ _ _ 72 [(0, .ref 18), (1, .int (iI p)), (2, .int (iI w))] [.int (iI 1), .int (iI ((a 4) (p + 1)))] _ _ _ _
      refine pm_c_ne (t := 83) pm_a186_72 rfl ⟨by omega, by omega⟩ ⟨by omega, by omega⟩ (fun h_3 => ?_) (fun h_3 => ?_)
      · skip
        show pm_E _ _ _ 83 [(0, .ref 18), (1, .int (iI p)), (2, .int (iI w))] [] _ _ _ _
        refine pm_e_sim pm_a186_83 rfl ?_
        show pm_E _ _ _ 84 [(0, .ref 18), (1, .int (iI p)), (2, .int (iI w))] [.ref 18] _ _ _ _
        refine pm_i_get pm_a186_84 rfl (mh_get (j := 0) hA rfl) rfl ?_
        show pm_E _ _ _ 87 [(0, .ref 18), (1, .int (iI p)), (2, .int (iI w))] [.ref 22] _ _ _ _
        refine pm_e_sim pm_a186_87 rfl ?_
        show pm_E _ _ _ 88 [(0, .ref 18), (1, .int (iI p)), (2, .int (iI w))] [.int (iI p), .ref 22] _ _ _ _
        refine pm_e_sim pm_a186_88 rfl ?_
        refine pm_e_top (y := iI 1) (by decide +kernel) ?_
        show pm_E _ _ _ 89 [(0, .ref 18), (1, .int (iI p)), (2, .int (iI w))] [.int (iI 1), .int (iI p), .ref 22] _ _ _ _
        refine pm_e_sim pm_a186_89 rfl ?_
        refine pm_e_top (y := iI (p + 1)) (iI_add _ _) ?_
        show pm_E _ _ _ 90 [(0, .ref 18), (1, .int (iI p)), (2, .int (iI w))] [.int (iI (p + 1)), .ref 22] _ _ _ _
        refine pm_i_ald pm_a186_90 (mh_get (j := 4) hA rfl) (by omega) (by omega) ⟨by omega, by omega⟩ ?_
        show pm_E _ _ _ 91 [(0, .ref 18), (1, .int (iI p)), (2, .int (iI w))] [.int (iI ((a 4) (p + 1)))] _ _ _ _
        refine pm_e_sim pm_a186_91 rfl ?_
        refine pm_e_top (y := iI 4) (by decide +kernel) ?_
        show pm_E _ _ _ 92 [(0, .ref 18), (1, .int (iI p)), (2, .int (iI w))] [.int (iI 4), .int (iI ((a 4) (p + 1)))] _ _ _ _
        refine pm_c_ne (t := 112) pm_a186_92 rfl ⟨by omega, by omega⟩ ⟨by omega, by omega⟩ (fun h_4 => ?_) (fun h_4 => ?_)
        · skip
          show pm_E _ _ _ 112 [(0, .ref 18), (1, .int (iI p)), (2, .int (iI w))] [] _ _ _ _
          refine pm_e_sim pm_a186_112 rfl ?_
          show pm_E _ _ _ 113 [(0, .ref 18), (1, .int (iI p)), (2, .int (iI w))] [.ref 18] _ _ _ _
          refine pm_i_get pm_a186_113 rfl (mh_get (j := 0) hA rfl) rfl ?_
          show pm_E _ _ _ 116 [(0, .ref 18), (1, .int (iI p)), (2, .int (iI w))] [.ref 22] _ _ _ _
          refine pm_e_sim pm_a186_116 rfl ?_
          show pm_E _ _ _ 117 [(0, .ref 18), (1, .int (iI p)), (2, .int (iI w))] [.int (iI p), .ref 22] _ _ _ _
          refine pm_e_sim pm_a186_117 rfl ?_
          refine pm_e_top (y := iI 2) (by decide +kernel) ?_
          show pm_E _ _ _ 118 [(0, .ref 18), (1, .int (iI p)), (2, .int (iI w))] [.int (iI 2), .int (iI p), .ref 22] _ _ _ _
          refine pm_e_sim pm_a186_118 rfl ?_
          refine pm_e_top (y := iI (p + 2)) (iI_add _ _) ?_
          show pm_E _ _ _ 119 [(0, .ref 18), (1, .int (iI p)), (2, .int (iI w))] [.int (iI (p + 2)), .ref 22] _ _ _ _
          refine pm_i_ald pm_a186_119 (mh_get (j := 4) hA rfl) (by omega) (by omega) ⟨by omega, by omega⟩ ?_
          show pm_E _ _ _ 120 [(0, .ref 18), (1, .int (iI p)), (2, .int (iI w))] [.int (iI ((a 4) (p + 2)))] _ _ _ _
          refine pm_e_sim pm_a186_120 rfl ?_
          refine pm_e_top (y := iI 3) (by decide +kernel) ?_
          show pm_E _ _ _ 121 [(0, .ref 18), (1, .int (iI p)), (2, .int (iI w))] [.int (iI 3), .int (iI ((a 4) (p + 2)))] _ _ _ _
          refine pm_c_ne (t := 141) pm_a186_121 rfl ⟨by omega, by omega⟩ ⟨by omega, by omega⟩ (fun h_5 => ?_) (fun h_5 => ?_)
          · skip
            show pm_E _ _ _ 141 [(0, .ref 18), (1, .int (iI p)), (2, .int (iI w))] [] _ _ _ _
            refine pm_e_sim pm_a186_141 rfl ?_
            show pm_E _ _ _ 142 [(0, .ref 18), (1, .int (iI p)), (2, .int (iI w))] [.int (iI p)] _ _ _ _
            refine pm_e_sim pm_a186_142 rfl ?_
            refine pm_e_top (y := iI 4) (by decide +kernel) ?_
            show pm_E _ _ _ 143 [(0, .ref 18), (1, .int (iI p)), (2, .int (iI w))] [.int (iI 4), .int (iI p)] _ _ _ _
            refine pm_e_sim pm_a186_143 rfl ?_
            refine pm_e_top (y := iI (p + 4)) (iI_add _ _) ?_
            show pm_E _ _ _ 144 [(0, .ref 18), (1, .int (iI p)), (2, .int (iI w))] [.int (iI (p + 4))] _ _ _ _
            refine pm_e_sim pm_a186_144 rfl ?_
            show pm_E _ _ _ 145 [(0, .ref 18), (1, .int (iI p)), (2, .int (iI w)), (3, .int (iI (p + 4)))] [] _ _ _ _
            refine pm_e_sim pm_a186_145 rfl ?_
            show pm_E _ _ _ 146 [(0, .ref 18), (1, .int (iI p)), (2, .int (iI w)), (3, .int (iI (p + 4)))] [.ref 18] _ _ _ _
            refine pm_e_sim pm_a186_146 rfl ?_
            show pm_E _ _ _ 147 [(0, .ref 18), (1, .int (iI p)), (2, .int (iI w)), (3, .int (iI (p + 4)))] [.int (iI (p + 4)), .ref 18] _ _ _ _
            refine pm_i_callv (k := 18) (T2 := pm_mm170) pm_a186_147 rfl rfl rfl (mh_get (j := 0) hA rfl) ⟨Nat.le_of_ble_eq_true rfl, Nat.le_of_ble_eq_true rfl, rfl, by decide +kernel⟩ ?_
            obtain ⟨f1, b, c, t1, t2, t3⟩ := red_S tp h0 (by omega) (by omega) (by omega)
            have l1 := tm_lt t1
            have l2 := tm_lt t2
            have l3 := tm_lt t3
            show pm_E none _ _ 0 [(0, .ref 18), (1, .int (iI (p + 4)))] [] _ _ _ _
            refine M_endT (a := u4 a D P q F) hA hr t1 (by omega) (by omega) ?_
            show pm_E _ _ _ 150 [(0, .ref 18), (1, .int (iI p)), (2, .int (iI w)), (3, .int (iI (p + 4)))] [.int (iI b)] _ _ _ _
            refine pm_e_sim pm_a186_150 rfl ?_
            show pm_E _ _ _ 152 [(0, .ref 18), (1, .int (iI p)), (2, .int (iI w)), (3, .int (iI (p + 4))), (4, .int (iI b))] [] _ _ _ _
            refine pm_e_sim pm_a186_152 rfl ?_
            show pm_E _ _ _ 153 [(0, .ref 18), (1, .int (iI p)), (2, .int (iI w)), (3, .int (iI (p + 4))), (4, .int (iI b))] [.ref 18] _ _ _ _
            refine pm_e_sim pm_a186_153 rfl ?_
            show pm_E _ _ _ 155 [(0, .ref 18), (1, .int (iI p)), (2, .int (iI w)), (3, .int (iI (p + 4))), (4, .int (iI b))] [.int (iI b), .ref 18] _ _ _ _
            refine pm_i_callv (k := 18) (T2 := pm_mm170) pm_a186_155 rfl rfl rfl (mh_get (j := 0) hA rfl) ⟨Nat.le_of_ble_eq_true rfl, Nat.le_of_ble_eq_true rfl, rfl, by decide +kernel⟩ ?_
            show pm_E none _ _ 0 [(0, .ref 18), (1, .int (iI b))] [] _ _ _ _
            refine M_endT (a := u4 a D P q F) hA hr t2 (by omega) (by omega) ?_
            show pm_E _ _ _ 158 [(0, .ref 18), (1, .int (iI p)), (2, .int (iI w)), (3, .int (iI (p + 4))), (4, .int (iI b))] [.int (iI c)] _ _ _ _
            refine pm_e_sim pm_a186_158 rfl ?_
            show pm_E _ _ _ 160 [(0, .ref 18), (1, .int (iI p)), (2, .int (iI w)), (3, .int (iI (p + 4))), (4, .int (iI b)), (5, .int (iI c))] [] _ _ _ _
            refine pm_e_sim pm_a186_160 rfl ?_
            show pm_E _ _ _ 161 [(0, .ref 18), (1, .int (iI p)), (2, .int (iI w)), (3, .int (iI (p + 4))), (4, .int (iI b)), (5, .int (iI c))] [.ref 18] _ _ _ _
            refine pm_e_sim pm_a186_161 rfl ?_
            show pm_E _ _ _ 163 [(0, .ref 18), (1, .int (iI p)), (2, .int (iI w)), (3, .int (iI (p + 4))), (4, .int (iI b)), (5, .int (iI c))] [.int (iI c), .ref 18] _ _ _ _
            refine pm_i_callv (k := 18) (T2 := pm_mm170) pm_a186_163 rfl rfl rfl (mh_get (j := 0) hA rfl) ⟨Nat.le_of_ble_eq_true rfl, Nat.le_of_ble_eq_true rfl, rfl, by decide +kernel⟩ ?_
            show pm_E none _ _ 0 [(0, .ref 18), (1, .int (iI c))] [] _ _ _ _
            refine M_endT (a := u4 a D P q F) hA hr t3 (by omega) (by omega) ?_
            show pm_E _ _ _ 166 [(0, .ref 18), (1, .int (iI p)), (2, .int (iI w)), (3, .int (iI (p + 4))), (4, .int (iI b)), (5, .int (iI c))] [.int (iI e)] _ _ _ _
            refine pm_e_sim pm_a186_166 rfl ?_
            show pm_E _ _ _ 168 [(0, .ref 18), (1, .int (iI p)), (2, .int (iI w)), (3, .int (iI (p + 4))), (4, .int (iI b)), (5, .int (iI c)), (6, .int (iI e))] [] _ _ _ _
            refine pm_e_sim pm_a186_168 rfl ?_
            show pm_E _ _ _ 169 [(0, .ref 18), (1, .int (iI p)), (2, .int (iI w)), (3, .int (iI (p + 4))), (4, .int (iI b)), (5, .int (iI c)), (6, .int (iI e))] [.ref 18] _ _ _ _
            refine pm_e_sim pm_a186_169 rfl ?_
            refine pm_e_top (y := iI 0) (by decide +kernel) ?_
            show pm_E _ _ _ 170 [(0, .ref 18), (1, .int (iI p)), (2, .int (iI w)), (3, .int (iI (p + 4))), (4, .int (iI b)), (5, .int (iI c)), (6, .int (iI e))] [.int (iI 0), .ref 18] _ _ _ _
            refine pm_i_callv (k := 18) (T2 := pm_mm185) pm_a186_170 rfl rfl rfl (mh_get (j := 0) hA rfl) ⟨Nat.le_of_ble_eq_true rfl, Nat.le_of_ble_eq_true rfl, rfl, by decide +kernel⟩ ?_
            show pm_E none _ _ 0 [(0, .ref 18), (1, .int (iI 0))] [] _ _ _ _
            refine M_addT (n := n) (F := F) hA (by omega) (by omega) ?_
            show pm_E _ _ _ 173 [(0, .ref 18), (1, .int (iI p)), (2, .int (iI w)), (3, .int (iI (p + 4))), (4, .int (iI b)), (5, .int (iI c)), (6, .int (iI e))] [] _ _ _ _
            refine pm_e_sim pm_a186_173 rfl ?_
            show pm_E _ _ _ 174 [(0, .ref 18), (1, .int (iI p)), (2, .int (iI w)), (3, .int (iI (p + 4))), (4, .int (iI b)), (5, .int (iI c)), (6, .int (iI e))] [.ref 18] _ _ _ _
            refine pm_e_sim pm_a186_174 rfl ?_
            refine pm_e_top (y := iI 0) (by decide +kernel) ?_
            show pm_E _ _ _ 175 [(0, .ref 18), (1, .int (iI p)), (2, .int (iI w)), (3, .int (iI (p + 4))), (4, .int (iI b)), (5, .int (iI c)), (6, .int (iI e))] [.int (iI 0), .ref 18] _ _ _ _
            refine pm_i_callv (k := 18) (T2 := pm_mm185) pm_a186_175 rfl rfl rfl (mh_get (j := 0) hA rfl) ⟨Nat.le_of_ble_eq_true rfl, Nat.le_of_ble_eq_true rfl, rfl, by decide +kernel⟩ ?_
            show pm_E none _ _ 0 [(0, .ref 18), (1, .int (iI 0))] [] _ _ _ _
            refine M_addT (n := n + 1) (F := laL F n ([0])) hA (by omega) (by omega) ?_
            refine pm_e_heap (show _ = mh A (updS s 28 (n + 1 + 1)) vl (u4 a D P q (laL F n ([0] ++ [0]))) nm B from by rw [laL_2 (by simp only [List.length_append, List.length_cons, List.length_nil, rg_len]; omega)]) ?_
            show pm_E _ _ _ 178 [(0, .ref 18), (1, .int (iI p)), (2, .int (iI w)), (3, .int (iI (p + 4))), (4, .int (iI b)), (5, .int (iI c)), (6, .int (iI e))] [] _ _ _ _
            refine pm_e_sim pm_a186_178 rfl ?_
            show pm_E _ _ _ 179 [(0, .ref 18), (1, .int (iI p)), (2, .int (iI w)), (3, .int (iI (p + 4))), (4, .int (iI b)), (5, .int (iI c)), (6, .int (iI e))] [.ref 18] _ _ _ _
            refine pm_e_sim pm_a186_179 rfl ?_
            show pm_E _ _ _ 180 [(0, .ref 18), (1, .int (iI p)), (2, .int (iI w)), (3, .int (iI (p + 4))), (4, .int (iI b)), (5, .int (iI c)), (6, .int (iI e))] [.int (iI (p + 4)), .ref 18] _ _ _ _
            refine pm_e_sim pm_a186_180 rfl ?_
            show pm_E _ _ _ 182 [(0, .ref 18), (1, .int (iI p)), (2, .int (iI w)), (3, .int (iI (p + 4))), (4, .int (iI b)), (5, .int (iI c)), (6, .int (iI e))] [.int (iI b), .int (iI (p + 4)), .ref 18] _ _ _ _
            refine pm_i_callv (k := 18) (T2 := pm_mm184) pm_a186_182 rfl rfl rfl (mh_get (j := 0) hA rfl) ⟨Nat.le_of_ble_eq_true rfl, Nat.le_of_ble_eq_true rfl, rfl, by decide +kernel⟩ ?_
            show pm_E none _ _ 0 [(0, .ref 18), (1, .int (iI (p + 4))), (2, .int (iI b))] [] _ _ _ _
            refine M_addAllT (n := n + 1 + 1) (F := laL F n ([0] ++ [0])) hA (by omega) (by omega) (by omega) (by omega) (by omega) ?_
            refine pm_e_heap (show _ = mh A (updS s 28 (n + 1 + 1 + (b - (p + 4)))) vl (u4 a D P q (laL F n ([0] ++ [0] ++ rg (a 4) (b - (p + 4)).toNat (p + 4)))) nm B from by rw [laL_2 (by simp only [List.length_append, List.length_cons, List.length_nil, rg_len]; omega)]) ?_
            show pm_E _ _ _ 185 [(0, .ref 18), (1, .int (iI p)), (2, .int (iI w)), (3, .int (iI (p + 4))), (4, .int (iI b)), (5, .int (iI c)), (6, .int (iI e))] [] _ _ _ _
            refine pm_e_sim pm_a186_185 rfl ?_
            show pm_E _ _ _ 186 [(0, .ref 18), (1, .int (iI p)), (2, .int (iI w)), (3, .int (iI (p + 4))), (4, .int (iI b)), (5, .int (iI c)), (6, .int (iI e))] [.ref 18] _ _ _ _
            refine pm_e_sim pm_a186_186 rfl ?_
            show pm_E _ _ _ 188 [(0, .ref 18), (1, .int (iI p)), (2, .int (iI w)), (3, .int (iI (p + 4))), (4, .int (iI b)), (5, .int (iI c)), (6, .int (iI e))] [.int (iI c), .ref 18] _ _ _ _
            refine pm_e_sim pm_a186_188 rfl ?_
            show pm_E _ _ _ 190 [(0, .ref 18), (1, .int (iI p)), (2, .int (iI w)), (3, .int (iI (p + 4))), (4, .int (iI b)), (5, .int (iI c)), (6, .int (iI e))] [.int (iI e), .int (iI c), .ref 18] _ _ _ _
            refine pm_i_callv (k := 18) (T2 := pm_mm184) pm_a186_190 rfl rfl rfl (mh_get (j := 0) hA rfl) ⟨Nat.le_of_ble_eq_true rfl, Nat.le_of_ble_eq_true rfl, rfl, by decide +kernel⟩ ?_
            show pm_E none _ _ 0 [(0, .ref 18), (1, .int (iI c)), (2, .int (iI e))] [] _ _ _ _
            refine M_addAllT (n := n + 1 + 1 + (b - (p + 4))) (F := laL F n ([0] ++ [0] ++ rg (a 4) (b - (p + 4)).toNat (p + 4))) hA (by omega) (by omega) (by omega) (by omega) (by omega) ?_
            refine pm_e_heap (show _ = mh A (updS s 28 (n + 1 + 1 + (b - (p + 4)) + (e - c))) vl (u4 a D P q (laL F n ([0] ++ [0] ++ rg (a 4) (b - (p + 4)).toNat (p + 4) ++ rg (a 4) (e - c).toNat c))) nm B from by rw [laL_2 (by simp only [List.length_append, List.length_cons, List.length_nil, rg_len]; omega)]) ?_
            show pm_E _ _ _ 193 [(0, .ref 18), (1, .int (iI p)), (2, .int (iI w)), (3, .int (iI (p + 4))), (4, .int (iI b)), (5, .int (iI c)), (6, .int (iI e))] [] _ _ _ _
            refine pm_e_sim pm_a186_193 rfl ?_
            show pm_E _ _ _ 194 [(0, .ref 18), (1, .int (iI p)), (2, .int (iI w)), (3, .int (iI (p + 4))), (4, .int (iI b)), (5, .int (iI c)), (6, .int (iI e))] [.ref 18] _ _ _ _
            refine pm_e_sim pm_a186_194 rfl ?_
            refine pm_e_top (y := iI 0) (by decide +kernel) ?_
            show pm_E _ _ _ 195 [(0, .ref 18), (1, .int (iI p)), (2, .int (iI w)), (3, .int (iI (p + 4))), (4, .int (iI b)), (5, .int (iI c)), (6, .int (iI e))] [.int (iI 0), .ref 18] _ _ _ _
            refine pm_i_callv (k := 18) (T2 := pm_mm185) pm_a186_195 rfl rfl rfl (mh_get (j := 0) hA rfl) ⟨Nat.le_of_ble_eq_true rfl, Nat.le_of_ble_eq_true rfl, rfl, by decide +kernel⟩ ?_
            show pm_E none _ _ 0 [(0, .ref 18), (1, .int (iI 0))] [] _ _ _ _
            refine M_addT (n := n + 1 + 1 + (b - (p + 4)) + (e - c)) (F := laL F n ([0] ++ [0] ++ rg (a 4) (b - (p + 4)).toNat (p + 4) ++ rg (a 4) (e - c).toNat c)) hA (by omega) (by omega) ?_
            refine pm_e_heap (show _ = mh A (updS s 28 (n + 1 + 1 + (b - (p + 4)) + (e - c) + 1)) vl (u4 a D P q (laL F n ([0] ++ [0] ++ rg (a 4) (b - (p + 4)).toNat (p + 4) ++ rg (a 4) (e - c).toNat c ++ [0]))) nm B from by rw [laL_2 (by simp only [List.length_append, List.length_cons, List.length_nil, rg_len]; omega)]) ?_
            show pm_E _ _ _ 198 [(0, .ref 18), (1, .int (iI p)), (2, .int (iI w)), (3, .int (iI (p + 4))), (4, .int (iI b)), (5, .int (iI c)), (6, .int (iI e))] [] _ _ _ _
            refine pm_e_sim pm_a186_198 rfl ?_
            show pm_E _ _ _ 199 [(0, .ref 18), (1, .int (iI p)), (2, .int (iI w)), (3, .int (iI (p + 4))), (4, .int (iI b)), (5, .int (iI c)), (6, .int (iI e))] [.ref 18] _ _ _ _
            refine pm_e_sim pm_a186_199 rfl ?_
            show pm_E _ _ _ 201 [(0, .ref 18), (1, .int (iI p)), (2, .int (iI w)), (3, .int (iI (p + 4))), (4, .int (iI b)), (5, .int (iI c)), (6, .int (iI e))] [.int (iI b), .ref 18] _ _ _ _
            refine pm_e_sim pm_a186_201 rfl ?_
            show pm_E _ _ _ 203 [(0, .ref 18), (1, .int (iI p)), (2, .int (iI w)), (3, .int (iI (p + 4))), (4, .int (iI b)), (5, .int (iI c)), (6, .int (iI e))] [.int (iI e), .int (iI b), .ref 18] _ _ _ _
            refine pm_i_callv (k := 18) (T2 := pm_mm184) pm_a186_203 rfl rfl rfl (mh_get (j := 0) hA rfl) ⟨Nat.le_of_ble_eq_true rfl, Nat.le_of_ble_eq_true rfl, rfl, by decide +kernel⟩ ?_
            show pm_E none _ _ 0 [(0, .ref 18), (1, .int (iI b)), (2, .int (iI e))] [] _ _ _ _
            refine M_addAllT (n := n + 1 + 1 + (b - (p + 4)) + (e - c) + 1) (F := laL F n ([0] ++ [0] ++ rg (a 4) (b - (p + 4)).toNat (p + 4) ++ rg (a 4) (e - c).toNat c ++ [0])) hA (by omega) (by omega) (by omega) (by omega) (by omega) ?_
            refine pm_e_heap (show _ = mh A (updS s 28 (n + 1 + 1 + (b - (p + 4)) + (e - c) + 1 + (e - b))) vl (u4 a D P q (laL F n ([0] ++ [0] ++ rg (a 4) (b - (p + 4)).toNat (p + 4) ++ rg (a 4) (e - c).toNat c ++ [0] ++ rg (a 4) (e - b).toNat b))) nm B from by rw [laL_2 (by simp only [List.length_append, List.length_cons, List.length_nil, rg_len]; omega)]) ?_
            show pm_E _ _ _ 206 [(0, .ref 18), (1, .int (iI p)), (2, .int (iI w)), (3, .int (iI (p + 4))), (4, .int (iI b)), (5, .int (iI c)), (6, .int (iI e))] [] _ _ _ _
            refine pm_e_ret pm_a186_206 rfl rfl rfl rfl rfl rfl rfl rfl ?_
            exact k D P q _ _ (Or.inr (Or.inr (Or.inr (Or.inr ⟨by omega, by omega, by omega, by omega, b, c, f1, _, t1, t2, t3, rfl⟩)))) hq (by simp only [List.length_append, List.length_cons, List.length_nil, rg_len]; omega)
          · skip
            show pm_E _ _ _ 124 [(0, .ref 18), (1, .int (iI p)), (2, .int (iI w))] [] _ _ _ _
            refine pm_e_sim pm_a186_124 rfl ?_
            show pm_E _ _ _ 125 [(0, .ref 18), (1, .int (iI p)), (2, .int (iI w))] [.ref 18] _ _ _ _
            refine pm_e_sim pm_a186_125 rfl ?_
            show pm_E _ _ _ 126 [(0, .ref 18), (1, .int (iI p)), (2, .int (iI w))] [.int (iI p), .ref 18] _ _ _ _
            refine pm_e_sim pm_a186_126 rfl ?_
            refine pm_e_top (y := iI 3) (by decide +kernel) ?_
            show pm_E _ _ _ 127 [(0, .ref 18), (1, .int (iI p)), (2, .int (iI w))] [.int (iI 3), .int (iI p), .ref 18] _ _ _ _
            refine pm_e_sim pm_a186_127 rfl ?_
            refine pm_e_top (y := iI (p + 3)) (iI_add _ _) ?_
            show pm_E _ _ _ 128 [(0, .ref 18), (1, .int (iI p)), (2, .int (iI w))] [.int (iI (p + 3)), .ref 18] _ _ _ _
            refine pm_e_sim pm_a186_128 rfl ?_
            show pm_E _ _ _ 129 [(0, .ref 18), (1, .int (iI p)), (2, .int (iI w))] [.ref 18, .int (iI (p + 3)), .ref 18] _ _ _ _
            refine pm_e_sim pm_a186_129 rfl ?_
            show pm_E _ _ _ 130 [(0, .ref 18), (1, .int (iI p)), (2, .int (iI w))] [.int (iI p), .ref 18, .int (iI (p + 3)), .ref 18] _ _ _ _
            refine pm_e_sim pm_a186_130 rfl ?_
            refine pm_e_top (y := iI 3) (by decide +kernel) ?_
            show pm_E _ _ _ 131 [(0, .ref 18), (1, .int (iI p)), (2, .int (iI w))] [.int (iI 3), .int (iI p), .ref 18, .int (iI (p + 3)), .ref 18] _ _ _ _
            refine pm_e_sim pm_a186_131 rfl ?_
            refine pm_e_top (y := iI (p + 3)) (iI_add _ _) ?_
            show pm_E _ _ _ 132 [(0, .ref 18), (1, .int (iI p)), (2, .int (iI w))] [.int (iI (p + 3)), .ref 18, .int (iI (p + 3)), .ref 18] _ _ _ _
            refine pm_i_callv (k := 18) (T2 := pm_mm170) pm_a186_132 rfl rfl rfl (mh_get (j := 0) hA rfl) ⟨Nat.le_of_ble_eq_true rfl, Nat.le_of_ble_eq_true rfl, rfl, by decide +kernel⟩ ?_
            obtain ⟨f1, m, t1, t2⟩ := red_K tp h0 (by omega) (by omega)
            have l1 := tm_lt t1
            have l2 := tm_lt t2
            show pm_E none _ _ 0 [(0, .ref 18), (1, .int (iI (p + 3)))] [] _ _ _ _
            refine M_endT (a := u4 a D P q F) hA hr t1 (by omega) (by omega) ?_
            show pm_E _ _ _ 135 [(0, .ref 18), (1, .int (iI p)), (2, .int (iI w))] [.int (iI m), .int (iI (p + 3)), .ref 18] _ _ _ _
            refine pm_i_callv (k := 18) (T2 := pm_mm184) pm_a186_135 rfl rfl rfl (mh_get (j := 0) hA rfl) ⟨Nat.le_of_ble_eq_true rfl, Nat.le_of_ble_eq_true rfl, rfl, by decide +kernel⟩ ?_
            show pm_E none _ _ 0 [(0, .ref 18), (1, .int (iI (p + 3))), (2, .int (iI m))] [] _ _ _ _
            refine M_addAllT (n := n) (F := F) hA (by omega) (by omega) (by omega) (by omega) (by omega) ?_
            show pm_E _ _ _ 138 [(0, .ref 18), (1, .int (iI p)), (2, .int (iI w))] [] _ _ _ _
            refine pm_e_goto pm_a186_138 rfl ?_
            show pm_E _ _ _ 206 [(0, .ref 18), (1, .int (iI p)), (2, .int (iI w))] [] _ _ _ _
            refine pm_e_ret pm_a186_206 rfl rfl rfl rfl rfl rfl rfl rfl ?_
            exact k D P q _ _ (Or.inr (Or.inr (Or.inr (Or.inl ⟨by omega, by omega, by omega, m, f1, _, t1, rfl⟩)))) hq (by simp only [List.length_append, List.length_cons, List.length_nil, rg_len]; omega)
        · skip
          show pm_E _ _ _ 95 [(0, .ref 18), (1, .int (iI p)), (2, .int (iI w))] [] _ _ _ _
          refine pm_e_sim pm_a186_95 rfl ?_
          show pm_E _ _ _ 96 [(0, .ref 18), (1, .int (iI p)), (2, .int (iI w))] [.ref 18] _ _ _ _
          refine pm_e_sim pm_a186_96 rfl ?_
          show pm_E _ _ _ 97 [(0, .ref 18), (1, .int (iI p)), (2, .int (iI w))] [.int (iI p), .ref 18] _ _ _ _
          refine pm_e_sim pm_a186_97 rfl ?_
          refine pm_e_top (y := iI 2) (by decide +kernel) ?_
          show pm_E _ _ _ 98 [(0, .ref 18), (1, .int (iI p)), (2, .int (iI w))] [.int (iI 2), .int (iI p), .ref 18] _ _ _ _
          refine pm_e_sim pm_a186_98 rfl ?_
          refine pm_e_top (y := iI (p + 2)) (iI_add _ _) ?_
          show pm_E _ _ _ 99 [(0, .ref 18), (1, .int (iI p)), (2, .int (iI w))] [.int (iI (p + 2)), .ref 18] _ _ _ _
          refine pm_e_sim pm_a186_99 rfl ?_
          show pm_E _ _ _ 100 [(0, .ref 18), (1, .int (iI p)), (2, .int (iI w))] [.ref 18, .int (iI (p + 2)), .ref 18] _ _ _ _
          refine pm_e_sim pm_a186_100 rfl ?_
          show pm_E _ _ _ 101 [(0, .ref 18), (1, .int (iI p)), (2, .int (iI w))] [.int (iI p), .ref 18, .int (iI (p + 2)), .ref 18] _ _ _ _
          refine pm_e_sim pm_a186_101 rfl ?_
          refine pm_e_top (y := iI 2) (by decide +kernel) ?_
          show pm_E _ _ _ 102 [(0, .ref 18), (1, .int (iI p)), (2, .int (iI w))] [.int (iI 2), .int (iI p), .ref 18, .int (iI (p + 2)), .ref 18] _ _ _ _
          refine pm_e_sim pm_a186_102 rfl ?_
          refine pm_e_top (y := iI (p + 2)) (iI_add _ _) ?_
          show pm_E _ _ _ 103 [(0, .ref 18), (1, .int (iI p)), (2, .int (iI w))] [.int (iI (p + 2)), .ref 18, .int (iI (p + 2)), .ref 18] _ _ _ _
          refine pm_i_callv (k := 18) (T2 := pm_mm170) pm_a186_103 rfl rfl rfl (mh_get (j := 0) hA rfl) ⟨Nat.le_of_ble_eq_true rfl, Nat.le_of_ble_eq_true rfl, rfl, by decide +kernel⟩ ?_
          obtain ⟨f1, t1⟩ := red_I tp h0 (by omega)
          have l1 := tm_lt t1
          show pm_E none _ _ 0 [(0, .ref 18), (1, .int (iI (p + 2)))] [] _ _ _ _
          refine M_endT (a := u4 a D P q F) hA hr t1 (by omega) (by omega) ?_
          show pm_E _ _ _ 106 [(0, .ref 18), (1, .int (iI p)), (2, .int (iI w))] [.int (iI e), .int (iI (p + 2)), .ref 18] _ _ _ _
          refine pm_i_callv (k := 18) (T2 := pm_mm184) pm_a186_106 rfl rfl rfl (mh_get (j := 0) hA rfl) ⟨Nat.le_of_ble_eq_true rfl, Nat.le_of_ble_eq_true rfl, rfl, by decide +kernel⟩ ?_
          show pm_E none _ _ 0 [(0, .ref 18), (1, .int (iI (p + 2))), (2, .int (iI e))] [] _ _ _ _
          refine M_addAllT (n := n) (F := F) hA (by omega) (by omega) (by omega) (by omega) (by omega) ?_
          show pm_E _ _ _ 109 [(0, .ref 18), (1, .int (iI p)), (2, .int (iI w))] [] _ _ _ _
          refine pm_e_goto pm_a186_109 rfl ?_
          show pm_E _ _ _ 206 [(0, .ref 18), (1, .int (iI p)), (2, .int (iI w))] [] _ _ _ _
          refine pm_e_ret pm_a186_206 rfl rfl rfl rfl rfl rfl rfl rfl ?_
          exact k D P q _ _ (Or.inr (Or.inr (Or.inl ⟨by omega, by omega, rfl⟩))) hq (by simp only [List.length_append, List.length_cons, List.length_nil, rg_len]; omega)
      · skip
        show pm_E _ _ _ 75 [(0, .ref 18), (1, .int (iI p)), (2, .int (iI w))] [] _ _ _ _
        refine pm_e_sim pm_a186_75 rfl ?_
        show pm_E _ _ _ 76 [(0, .ref 18), (1, .int (iI p)), (2, .int (iI w))] [.ref 18] _ _ _ _
        refine pm_e_sim pm_a186_76 rfl ?_
        show pm_E _ _ _ 77 [(0, .ref 18), (1, .int (iI p)), (2, .int (iI w))] [.int (iI p), .ref 18] _ _ _ _
        refine pm_i_callv (k := 18) (T2 := pm_mm188) pm_a186_77 rfl rfl rfl (mh_get (j := 0) hA rfl) ⟨Nat.le_of_ble_eq_true rfl, Nat.le_of_ble_eq_true rfl, rfl, by decide +kernel⟩ ?_
        obtain ⟨f1, f2, u, t1, t2⟩ := red_L tp h0 (by omega)
        have l1 := tm_lt t1
        have l2 := tm_lt t2
        show pm_E none _ _ 0 [(0, .ref 18), (1, .int (iI p))] [] _ _ _ _
        refine M_beta hA hr t1 t2 (by omega) (by omega) (fun j z y => hb j (by omega) (by omega)) hq (by omega) (by omega) (fun D1 P1 q1 N dD1 dq1 hq1 hN => ?_)
        show pm_E _ _ _ 80 [(0, .ref 18), (1, .int (iI p)), (2, .int (iI w))] [] _ _ _ _
        refine pm_e_goto pm_a186_80 rfl ?_
        show pm_E _ _ _ 206 [(0, .ref 18), (1, .int (iI p)), (2, .int (iI w))] [] _ _ _ _
        refine pm_e_ret pm_a186_206 rfl rfl rfl rfl rfl rfl rfl rfl ?_
        exact k D1 P1 q1 _ N (Or.inr (Or.inl ⟨by omega, by omega, u, f1, _, f2, _, D1, q1, t1, t2, dD1, dq1, rfl⟩)) hq1 hN
    · skip
      exfalso; omega
