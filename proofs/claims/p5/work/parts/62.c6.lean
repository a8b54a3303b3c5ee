/-! THE CLASS: Turner: what shortens; place -/
theorem dp_sub {g D : Int → Int} : ∀ {f : Nat} {k p e : Int}, dp g D f k p e → ∀ j, p ≤ j → j < e → ∃ f' e', dp g D f' (D j) j e' ∧ e' ≤ e ∧ k ≤ D j ∧ D j ≤ k + (j - p) := by
  intro f
  induction f with
  | zero => intro k p e h; exact h.elim
  | succ f ih =>
    intro k p e h j h1 h2
    by_cases hj : j = p
    · subst hj
      have hk : D j = k := h.1
      exact ⟨f + 1, e, by rw [hk]; exact h, by omega, by omega, by omega⟩
    · rcases h with ⟨hd, ⟨h0, m, z1, z2⟩ | ⟨h0, z1⟩ | ⟨h0, z1⟩⟩
      · have l1 := dp_lt z1; have l2 := dp_lt z2
        by_cases hm : j < m
        · obtain ⟨f', e', t, e1, e2, e3⟩ := ih z1 j (by omega) hm
          exact ⟨f', e', t, by omega, e2, by omega⟩
        · obtain ⟨f', e', t, e1, e2, e3⟩ := ih z2 j (by omega) h2
          exact ⟨f', e', t, by omega, e2, by omega⟩
      · obtain ⟨f', e', t, e1, e2, e3⟩ := ih z1 j (by omega) h2
        exact ⟨f', e', t, by omega, by omega, by omega⟩
      · omega
theorem dp_off {g D : Int → Int} {o : Int} : ∀ {f : Nat} {k p e : Int}, dp g D f k p e → dp g (fun q => D q - o) f (k - o) p e := by
  intro f
  induction f with
  | zero => intro k p e h; exact h.elim
  | succ f ih =>
    intro k p e h
    rcases h with ⟨hd, ⟨h0, m, z1, z2⟩ | ⟨h0, z1⟩ | h0⟩
    · exact ⟨by show D p - o = k - o; omega, Or.inl ⟨h0, m, ih z1, ih z2⟩⟩
    · have := ih z1
      rw [show k + 1 - o = k - o + 1 by omega] at this
      exact ⟨by show D p - o = k - o; omega, Or.inr (Or.inl ⟨h0, this⟩)⟩
    · exact ⟨by show D p - o = k - o; omega, Or.inr (Or.inr h0)⟩
theorem dp_app {g D : Int → Int} {f : Nat} {k p e : Int} (h : dp g D f k p e) (h0 : g p = 0) : ∃ f' m, dp g D f' k (p + 1) m ∧ dp g D f' k m e := by
  cases f with
  | zero => exact h.elim
  | succ f =>
    rcases h with ⟨_, ⟨_, m, z1, z2⟩ | ⟨h1, _⟩ | ⟨h1, _⟩⟩
    · exact ⟨f, m, z1, z2⟩
    · omega
    · omega
theorem dp_lam {g D : Int → Int} {f : Nat} {k p e : Int} (h : dp g D f k p e) (h0 : g p = 1) : ∃ f', dp g D f' (k + 1) (p + 1) e := by
  cases f with
  | zero => exact h.elim
  | succ f =>
    rcases h with ⟨_, ⟨h1, _⟩ | ⟨_, z1⟩ | ⟨h1, _⟩⟩
    · omega
    · exact ⟨f, z1⟩
    · omega
/-- what is bound at a place, told from the depths of the whole -/
theorem thn_whole {g D E : Int → Int} {f f0 : Nat} {k0 k z p : Int} (t : tm g f k0 0 z) (hd : dp g D f0 k 0 z) (he : en g E 0 z) (hp : 0 ≤ p) (hz : p < z) : thn g p ↔ (g p = 1 ∧ g (p + 1) = 0 ∧ g (E (p + 2)) = 10 ∧ ∀ q, p + 2 ≤ q → q < E (p + 2) → 10 ≤ g q → D q - 1 - (g q - 10) ≠ D p) := by
  obtain ⟨f1, k1, e1, t1, h1, _⟩ := tm_sub t p hp hz
  obtain ⟨f2, e2, d2, h2, _⟩ := dp_sub hd p hp hz
  have key : g p = 1 → g (p + 1) = 0 → ∃ (m : Int) (fa : Nat) (ka : Int) (fb : Nat), tm g fa ka (p + 2) m ∧ dp g D fb (D p + 1) (p + 2) m ∧ E (p + 2) = m := by
    intro a b
    obtain ⟨fa, ta, _⟩ := tm_lam t1 a
    obtain ⟨fb, m, tb, tc, _⟩ := tm_app ta b
    rw [show p + 1 + 1 = p + 2 by omega] at tb
    have l1 := tm_lt tb; have l2 := tm_lt tc
    obtain ⟨fc, da⟩ := dp_lam d2 a
    obtain ⟨fe, m2, db, dc⟩ := dp_app da b
    rw [show p + 1 + 1 = p + 2 by omega] at db
    have em := dp_tm_end tb db
    subst em
    obtain ⟨fx, kx, tx⟩ := he (p + 2) (by omega) (by omega)
    exact ⟨m, fb, _, fe, tb, db, tm_one tx tb⟩
  constructor
  · rintro ⟨a, b, m, f3, k3, D3, t3, d3, h3, h4⟩
    obtain ⟨m', fa, ka, fb, ta, db, hE⟩ := key a b
    have em := tm_one ta t3
    subst em
    rw [hE]
    refine ⟨a, b, h3, fun q q1 q2 q3 q4 => h4 q q1 q2 ?_⟩
    have dd := dp_off (o := D p + 1) db
    rw [show D p + 1 - (D p + 1) = 0 by omega] at dd
    have := (dp_one d3 dd).2 q q1 q2
    rw [this]
    show g q = 10 + (D q - (D p + 1))
    omega
  · rintro ⟨a, b, h3, h4⟩
    obtain ⟨m, fa, ka, fb, ta, db, hE⟩ := key a b
    rw [hE] at h3 h4
    have dd := dp_off (o := D p + 1) db
    rw [show D p + 1 - (D p + 1) = 0 by omega] at dd
    refine ⟨a, b, m, (m - (p + 2)).toNat, ka, _, tm_small ta _ (Nat.le_refl _), dp_small dd _ (Nat.le_refl _), h3, fun q q1 q2 q3 => ?_⟩
    obtain ⟨_, _, _, _, hh, _⟩ := dp_sub db q q1 q2
    have q4 : g q = 10 + (D q - (D p + 1)) := q3
    exact h4 q q1 q2 (by omega) (by omega)
set_option maxHeartbeats 4000000 in
set_option maxRecDepth 100000 in
theorem C_isBoundIn_l {d n : Nat} {kd pl : Nat → Nat} {s : Nat → Int} {a : Nat → Int → Int} {c : Nat → cdt} {M : List va_E} {Q : Option Value → List va_E → Nat → Nat → Prop} {j : Nat} {x e dd : Int} (hW : wf n kd pl) (hj : j < 38 ∧ al n kd pl (60 + 2 * j)) (hok : okx (rm j) (c j)) (hx : 0 ≤ x) (hxe : x ≤ e) (he : e ≤ (c j).1) (hdd : 0 ≤ dd ∧ dd ≤ 1000) (hd : ∀ q, x ≤ q → q < e → 0 ≤ a 2 q ∧ a 2 q ≤ 1000) (k1 : ∀ q, x ≤ q → q < e → 10 ≤ (c j).2.2 q → a 2 q - 1 - ((c j).2.2 q - 10) = dd → Q (some (.int (iI 1))) (ch n kd pl s a c M) 0 0) (k0 : (∀ q, x ≤ q → q < e → 10 ≤ (c j).2.2 q → a 2 q - 1 - ((c j).2.2 q - 10) ≠ dd) → Q (some (.int (iI 0))) (ch n kd pl s a c M) 0 0) : ∀ (f : Nat) (i : Int), x ≤ i → i ≤ e → (∀ q, x ≤ q → q < i → 10 ≤ (c j).2.2 q → a 2 q - 1 - ((c j).2.2 q - 10) ≠ dd) → e - i < (f : Int) → pm_E none (d + 2) pm_mm79 3 [(0, .ref (pl 15)), (1, .ref (pl (60 + 2 * j))), (2, .int (iI x)), (3, .int (iI e)), (4, .int (iI dd)), (5, .int (iI i))] [] (ch n kd pl s a c M) 0 0 Q := by
  intro f
  induction f with
  | zero =>
    intro i hi0 hi1 hi hf
    exfalso; omega
  | succ f ih =>
    intro i hi0 hi1 hi hf
    have rb := rm_b j
    obtain ⟨o1, o2, o3, o4⟩ := id hok
    refine pm_e_sim pm_a79_3 rfl ?_
    show pm_E _ _ _ 5 [(0, .ref (pl 15)), (1, .ref (pl (60 + 2 * j))), (2, .int (iI x)), (3, .int (iI e)), (4, .int (iI dd)), (5, .int (iI i))] [.int (iI i)] _ _ _ _
    refine pm_e_sim pm_a79_5 rfl ?_
    show pm_E _ _ _ 6 [(0, .ref (pl 15)), (1, .ref (pl (60 + 2 * j))), (2, .int (iI x)), (3, .int (iI e)), (4, .int (iI dd)), (5, .int (iI i))] [.int (iI e), .int (iI i)] _ _ _ _
    refine pm_c_ge (t := 48) pm_a79_6 rfl ⟨by omega, by omega⟩ ⟨by omega, by omega⟩ (fun h_1 => ?_) (fun h_1 => ?_)
    · skip
      show pm_E _ _ _ 48 [(0, .ref (pl 15)), (1, .ref (pl (60 + 2 * j))), (2, .int (iI x)), (3, .int (iI e)), (4, .int (iI dd)), (5, .int (iI i))] [] _ _ _ _
      refine pm_e_sim pm_a79_48 rfl ?_
      refine pm_e_top (y := iI 0) (by decide +kernel) ?_
      show pm_E _ _ _ 49 [(0, .ref (pl 15)), (1, .ref (pl (60 + 2 * j))), (2, .int (iI x)), (3, .int (iI e)), (4, .int (iI dd)), (5, .int (iI i))] [.int (iI 0)] _ _ _ _
      refine pm_e_ret pm_a79_49 rfl rfl rfl rfl rfl rfl rfl rfl ?_
      exact k0 (fun q a b c => hi q a (by omega) c)
    · skip
      show pm_E _ _ _ 9 [(0, .ref (pl 15)), (1, .ref (pl (60 + 2 * j))), (2, .int (iI x)), (3, .int (iI e)), (4, .int (iI dd)), (5, .int (iI i))] [] _ _ _ _
      refine pm_e_sim pm_a79_9 rfl ?_
      show pm_E _ _ _ 10 [(0, .ref (pl 15)), (1, .ref (pl (60 + 2 * j))), (2, .int (iI x)), (3, .int (iI e)), (4, .int (iI dd)), (5, .int (iI i))] [.ref (pl (60 + 2 * j))] _ _ _ _
      refine pm_e_sim pm_a79_10 rfl ?_
      show pm_E _ _ _ 12 [(0, .ref (pl 15)), (1, .ref (pl (60 + 2 * j))), (2, .int (iI x)), (3, .int (iI e)), (4, .int (iI dd)), (5, .int (iI i))] [.int (iI i), .ref (pl (60 + 2 * j))] _ _ _ _
      refine pm_i_callv (k := (pl (60 + 2 * j))) (T2 := pm_mm47) pm_a79_12 rfl rfl rfl (cg_o hj) ⟨Nat.le_of_ble_eq_true rfl, Nat.le_of_ble_eq_true rfl, rfl, by decide +kernel⟩ ?_
      show pm_E none _ _ 0 [(0, .ref (pl (60 + 2 * j))), (1, .int (iI i))] [] _ _ _ _
      refine C_at hW hj rfl hok.1 hok.2.1 ⟨by omega, by omega⟩ ?_
      rw [atI_y (by omega) (by omega)]
      obtain ⟨_, _⟩ := o4 (i)
      show pm_E _ _ _ 15 [(0, .ref (pl 15)), (1, .ref (pl (60 + 2 * j))), (2, .int (iI x)), (3, .int (iI e)), (4, .int (iI dd)), (5, .int (iI i))] [.int (iI ((c j).2.2 i))] _ _ _ _
      refine pm_e_sim pm_a79_15 rfl ?_
      show pm_E _ _ _ 17 [(0, .ref (pl 15)), (1, .ref (pl (60 + 2 * j))), (2, .int (iI x)), (3, .int (iI e)), (4, .int (iI dd)), (5, .int (iI i)), (6, .int (iI ((c j).2.2 i)))] [] _ _ _ _
      refine pm_e_sim pm_a79_17 rfl ?_
      show pm_E _ _ _ 19 [(0, .ref (pl 15)), (1, .ref (pl (60 + 2 * j))), (2, .int (iI x)), (3, .int (iI e)), (4, .int (iI dd)), (5, .int (iI i)), (6, .int (iI ((c j).2.2 i)))] [.int (iI ((c j).2.2 i))] _ _ _ _
      refine pm_e_sim pm_a79_19 rfl ?_
      refine pm_e_top (y := iI 10) (by decide +kernel) ?_
      show pm_E _ _ _ 21 [(0, .ref (pl 15)), (1, .ref (pl (60 + 2 * j))), (2, .int (iI x)), (3, .int (iI e)), (4, .int (iI dd)), (5, .int (iI i)), (6, .int (iI ((c j).2.2 i)))] [.int (iI 10), .int (iI ((c j).2.2 i))] _ _ _ _
      refine pm_c_lt (t := 42) pm_a79_21 rfl ⟨by omega, by omega⟩ ⟨by omega, by omega⟩ (fun h_2 => ?_) (fun h_2 => ?_)
      · skip
        show pm_E _ _ _ 42 [(0, .ref (pl 15)), (1, .ref (pl (60 + 2 * j))), (2, .int (iI x)), (3, .int (iI e)), (4, .int (iI dd)), (5, .int (iI i)), (6, .int (iI ((c j).2.2 i)))] [] _ _ _ _
        refine pm_e_inc (y := iI (i + 1)) pm_a79_42 rfl (iI_add _ _) (by decide +kernel) rfl ?_
        show pm_E _ _ _ 45 [(0, .ref (pl 15)), (1, .ref (pl (60 + 2 * j))), (2, .int (iI x)), (3, .int (iI e)), (4, .int (iI dd)), (5, .int (iI (i + 1))), (6, .int (iI ((c j).2.2 i)))] [] _ _ _ _
        refine pm_e_goto pm_a79_45 rfl ?_
        show pm_E _ _ _ 3 [(0, .ref (pl 15)), (1, .ref (pl (60 + 2 * j))), (2, .int (iI x)), (3, .int (iI e)), (4, .int (iI dd)), (5, .int (iI (i + 1))), (6, .int (iI ((c j).2.2 i)))] [] _ _ _ _
        show pm_E _ _ _ 3 ([(0, .ref (pl 15)), (1, .ref (pl (60 + 2 * j))), (2, .int (iI x)), (3, .int (iI e)), (4, .int (iI dd)), (5, .int (iI (i + 1)))] ++ [(6, .int (iI ((c j).2.2 i)))]) [] _ _ _ _
        refine pm_e_more [(6, .int (iI ((c j).2.2 i)))] (show ([0, 1, 2, 3, 4, 5, 6] : List Nat).Nodup from by decide) ?_
        refine ih _ (by omega) (by omega) (fun q a b c => ?_) (by omega)
        by_cases hq : q = i
        · subst hq; omega
        · exact hi q a (by omega) c
      · skip
        show pm_E _ _ _ 24 [(0, .ref (pl 15)), (1, .ref (pl (60 + 2 * j))), (2, .int (iI x)), (3, .int (iI e)), (4, .int (iI dd)), (5, .int (iI i)), (6, .int (iI ((c j).2.2 i)))] [] _ _ _ _
        refine pm_e_sim pm_a79_24 rfl ?_
        show pm_E _ _ _ 25 [(0, .ref (pl 15)), (1, .ref (pl (60 + 2 * j))), (2, .int (iI x)), (3, .int (iI e)), (4, .int (iI dd)), (5, .int (iI i)), (6, .int (iI ((c j).2.2 i)))] [.ref (pl 15)] _ _ _ _
        refine pm_i_get pm_a79_25 rfl (cg_15 hW) rfl ?_
        show pm_E _ _ _ 28 [(0, .ref (pl 15)), (1, .ref (pl (60 + 2 * j))), (2, .int (iI x)), (3, .int (iI e)), (4, .int (iI dd)), (5, .int (iI i)), (6, .int (iI ((c j).2.2 i)))] [.ref (pl 6)] _ _ _ _
        refine pm_e_sim pm_a79_28 rfl ?_
        show pm_E _ _ _ 30 [(0, .ref (pl 15)), (1, .ref (pl (60 + 2 * j))), (2, .int (iI x)), (3, .int (iI e)), (4, .int (iI dd)), (5, .int (iI i)), (6, .int (iI ((c j).2.2 i)))] [.int (iI ((c j).2.2 i)), .ref (pl 6)] _ _ _ _
        refine pm_e_sim pm_a79_30 rfl ?_
        show pm_E _ _ _ 32 [(0, .ref (pl 15)), (1, .ref (pl (60 + 2 * j))), (2, .int (iI x)), (3, .int (iI e)), (4, .int (iI dd)), (5, .int (iI i)), (6, .int (iI ((c j).2.2 i)))] [.int (iI i), .int (iI ((c j).2.2 i)), .ref (pl 6)] _ _ _ _
        refine pm_i_callv (k := (pl 6)) (T2 := pm_mm80) pm_a79_32 rfl rfl rfl (cg_6 hW) ⟨Nat.le_of_ble_eq_true rfl, Nat.le_of_ble_eq_true rfl, rfl, by decide +kernel⟩ ?_
        show pm_E none _ _ 0 [(0, .ref (pl 6)), (1, .int (iI ((c j).2.2 i))), (2, .int (iI i))] [] _ _ _ _
        refine C_binderDepth hW ⟨by omega, by omega⟩ ?_
        rw [shD_y (by omega) (by omega)]
        obtain ⟨_, _⟩ := hd i (by omega) (by omega)
        show pm_E _ _ _ 35 [(0, .ref (pl 15)), (1, .ref (pl (60 + 2 * j))), (2, .int (iI x)), (3, .int (iI e)), (4, .int (iI dd)), (5, .int (iI i)), (6, .int (iI ((c j).2.2 i)))] [.int (iI (a 2 i - 1 - ((c j).2.2 i - 10)))] _ _ _ _
        refine pm_e_sim pm_a79_35 rfl ?_
        show pm_E _ _ _ 37 [(0, .ref (pl 15)), (1, .ref (pl (60 + 2 * j))), (2, .int (iI x)), (3, .int (iI e)), (4, .int (iI dd)), (5, .int (iI i)), (6, .int (iI ((c j).2.2 i)))] [.int (iI dd), .int (iI (a 2 i - 1 - ((c j).2.2 i - 10)))] _ _ _ _
        refine pm_c_ne (t := 42) pm_a79_37 rfl ⟨by omega, by omega⟩ ⟨by omega, by omega⟩ (fun h_3 => ?_) (fun h_3 => ?_)
        · skip
          show pm_E _ _ _ 42 [(0, .ref (pl 15)), (1, .ref (pl (60 + 2 * j))), (2, .int (iI x)), (3, .int (iI e)), (4, .int (iI dd)), (5, .int (iI i)), (6, .int (iI ((c j).2.2 i)))] [] _ _ _ _
          refine pm_e_inc (y := iI (i + 1)) pm_a79_42 rfl (iI_add _ _) (by decide +kernel) rfl ?_
          show pm_E _ _ _ 45 [(0, .ref (pl 15)), (1, .ref (pl (60 + 2 * j))), (2, .int (iI x)), (3, .int (iI e)), (4, .int (iI dd)), (5, .int (iI (i + 1))), (6, .int (iI ((c j).2.2 i)))] [] _ _ _ _
          refine pm_e_goto pm_a79_45 rfl ?_
          show pm_E _ _ _ 3 [(0, .ref (pl 15)), (1, .ref (pl (60 + 2 * j))), (2, .int (iI x)), (3, .int (iI e)), (4, .int (iI dd)), (5, .int (iI (i + 1))), (6, .int (iI ((c j).2.2 i)))] [] _ _ _ _
          show pm_E _ _ _ 3 ([(0, .ref (pl 15)), (1, .ref (pl (60 + 2 * j))), (2, .int (iI x)), (3, .int (iI e)), (4, .int (iI dd)), (5, .int (iI (i + 1)))] ++ [(6, .int (iI ((c j).2.2 i)))]) [] _ _ _ _
          refine pm_e_more [(6, .int (iI ((c j).2.2 i)))] (show ([0, 1, 2, 3, 4, 5, 6] : List Nat).Nodup from by decide) ?_
          refine ih _ (by omega) (by omega) (fun q a b c => ?_) (by omega)
          by_cases hq : q = i
          · subst hq; omega
          · exact hi q a (by omega) c
        · skip
          show pm_E _ _ _ 40 [(0, .ref (pl 15)), (1, .ref (pl (60 + 2 * j))), (2, .int (iI x)), (3, .int (iI e)), (4, .int (iI dd)), (5, .int (iI i)), (6, .int (iI ((c j).2.2 i)))] [] _ _ _ _
          refine pm_e_sim pm_a79_40 rfl ?_
          refine pm_e_top (y := iI 1) (by decide +kernel) ?_
          show pm_E _ _ _ 41 [(0, .ref (pl 15)), (1, .ref (pl (60 + 2 * j))), (2, .int (iI x)), (3, .int (iI e)), (4, .int (iI dd)), (5, .int (iI i)), (6, .int (iI ((c j).2.2 i)))] [.int (iI 1)] _ _ _ _
          refine pm_e_ret pm_a79_41 rfl rfl rfl rfl rfl rfl rfl rfl ?_
          exact k1 i (by omega) (by omega) (by omega) (by omega)
set_option maxHeartbeats 4000000 in
set_option maxRecDepth 100000 in
theorem C_isBoundIn {d n : Nat} {kd pl : Nat → Nat} {s : Nat → Int} {a : Nat → Int → Int} {c : Nat → cdt} {M : List va_E} {Q : Option Value → List va_E → Nat → Nat → Prop} {j : Nat} {x e dd : Int} {y : cdt} (hW : wf n kd pl) (hj : j < 38 ∧ al n kd pl (60 + 2 * j)) (hy : c j = y) (hok : okx (rm j) y) (hx : 0 ≤ x) (hxe : x ≤ e) (he : e ≤ y.1) (hdd : 0 ≤ dd ∧ dd ≤ 1000) (hd : ∀ q, x ≤ q → q < e → 0 ≤ a 2 q ∧ a 2 q ≤ 1000) (k1 : ∀ q, x ≤ q → q < e → 10 ≤ y.2.2 q → a 2 q - 1 - (y.2.2 q - 10) = dd → Q (some (.int (iI 1))) (ch n kd pl s a c M) 0 0) (k0 : (∀ q, x ≤ q → q < e → 10 ≤ y.2.2 q → a 2 q - 1 - (y.2.2 q - 10) ≠ dd) → Q (some (.int (iI 0))) (ch n kd pl s a c M) 0 0) : pm_E none (d + 2) pm_mm79 0 [(0, .ref (pl 15)), (1, .ref (pl (60 + 2 * j))), (2, .int (iI x)), (3, .int (iI e)), (4, .int (iI dd))] [] (ch n kd pl s a c M) 0 0 Q := by
  subst hy
  have rb := rm_b j
  obtain ⟨o1, o2, o3, o4⟩ := id hok
  refine pm_e_sim pm_a79_0 rfl ?_
  show pm_E _ _ _ 1 [(0, .ref (pl 15)), (1, .ref (pl (60 + 2 * j))), (2, .int (iI x)), (3, .int (iI e)), (4, .int (iI dd))] [.int (iI x)] _ _ _ _
  refine pm_e_sim pm_a79_1 rfl ?_
  show pm_E _ _ _ 3 [(0, .ref (pl 15)), (1, .ref (pl (60 + 2 * j))), (2, .int (iI x)), (3, .int (iI e)), (4, .int (iI dd)), (5, .int (iI x))] [] _ _ _ _
  refine C_isBoundIn_l hW hj hok hx hxe he hdd hd k1 k0 ((e - x).toNat + 1) x (by omega) (by omega) (fun q a b => by omega) (by omega)
set_option maxHeartbeats 4000000 in
set_option maxRecDepth 100000 in
theorem C_isShortened {d n : Nat} {kd pl : Nat → Nat} {s : Nat → Int} {a : Nat → Int → Int} {c : Nat → cdt} {M : List va_E} {Q : Option Value → List va_E → Nat → Nat → Prop} {j : Nat} {p k0_ : Int} {y : cdt} {ft fd : Nat} (hW : wf n kd pl) (hj : j < 38 ∧ al n kd pl (60 + 2 * j)) (hy : c j = y) (hok : okx (rm j) y) (ht : tm y.2.2 ft k0_ 0 y.1) (hd : dp y.2.2 (a 2) fd 0 0 y.1) (he : en y.2.2 (a 1) 0 y.1) (hp : 0 ≤ p) (hz : p < y.1) (k1 : thn y.2.2 p → Q (some (.int (iI 1))) (ch n kd pl s a c M) 0 0) (k0 : ¬ thn y.2.2 p → Q (some (.int (iI 0))) (ch n kd pl s a c M) 0 0) : pm_E none (d + 3) pm_mm78 0 [(0, .ref (pl 15)), (1, .ref (pl (60 + 2 * j))), (2, .int (iI p))] [] (ch n kd pl s a c M) 0 0 Q := by
  subst hy
  have rb := rm_b j
  obtain ⟨o1, o2, o3, o4⟩ := id hok
  have hT := thn_whole ht hd he hp hz
  have L3 : ∀ q, 0 ≤ q → q < (c j).1 → 0 ≤ a 2 q ∧ a 2 q ≤ 1000 := fun q z1 z2 => by
    obtain ⟨_, _, _, _, z3, z4⟩ := dp_sub hd q z1 z2
    omega
  obtain ⟨f1, k1_, e1, t1, h1_, _⟩ := tm_sub ht p hp hz
  have L1 : (c j).2.2 p = 1 → p + 1 < (c j).1 := fun z1 => by
    obtain ⟨_, ta, _⟩ := tm_lam t1 z1
    have := tm_lt ta
    omega
  have L2 : (c j).2.2 p = 1 → (c j).2.2 (p + 1) = 0 → p + 2 < (c j).1 ∧ p + 2 < a 1 (p + 2) ∧ a 1 (p + 2) < (c j).1 := fun z1 z2 => by
    obtain ⟨_, ta, _⟩ := tm_lam t1 z1
    obtain ⟨_, m, tb, tc, _⟩ := tm_app ta z2
    rw [show p + 1 + 1 = p + 2 by omega] at tb
    have := tm_lt tb
    have := tm_lt tc
    obtain ⟨_, _, tx⟩ := he (p + 2) (by omega) (by omega)
    have := tm_one tx tb
    omega
  refine pm_e_sim pm_a78_0 rfl ?_
  show pm_E _ _ _ 1 [(0, .ref (pl 15)), (1, .ref (pl (60 + 2 * j))), (2, .int (iI p))] [.ref (pl (60 + 2 * j))] _ _ _ _
  refine pm_e_sim pm_a78_1 rfl ?_
  show pm_E _ _ _ 2 [(0, .ref (pl 15)), (1, .ref (pl (60 + 2 * j))), (2, .int (iI p))] [.int (iI p), .ref (pl (60 + 2 * j))] _ _ _ _
  refine pm_i_callv (k := (pl (60 + 2 * j))) (T2 := pm_mm47) pm_a78_2 rfl rfl rfl (cg_o hj) ⟨Nat.le_of_ble_eq_true rfl, Nat.le_of_ble_eq_true rfl, rfl, by decide +kernel⟩ ?_
  show pm_E none _ _ 0 [(0, .ref (pl (60 + 2 * j))), (1, .int (iI p))] [] _ _ _ _
  refine C_at hW hj rfl hok.1 hok.2.1 ⟨by omega, by omega⟩ ?_
  rw [atI_y (by omega) (by omega)]
  obtain ⟨_, _⟩ := o4 (p)
  show pm_E _ _ _ 5 [(0, .ref (pl 15)), (1, .ref (pl (60 + 2 * j))), (2, .int (iI p))] [.int (iI ((c j).2.2 p))] _ _ _ _
  refine pm_e_sim pm_a78_5 rfl ?_
  refine pm_e_top (y := iI 1) (by decide +kernel) ?_
  show pm_E _ _ _ 6 [(0, .ref (pl 15)), (1, .ref (pl (60 + 2 * j))), (2, .int (iI p))] [.int (iI 1), .int (iI ((c j).2.2 p))] _ _ _ _
  refine pm_c_ne (t := 19) pm_a78_6 rfl ⟨by omega, by omega⟩ ⟨by omega, by omega⟩ (fun h_1 => ?_) (fun h_1 => ?_)
  · skip
    show pm_E _ _ _ 19 [(0, .ref (pl 15)), (1, .ref (pl (60 + 2 * j))), (2, .int (iI p))] [] _ _ _ _
    refine pm_e_sim pm_a78_19 rfl ?_
    refine pm_e_top (y := iI 0) (by decide +kernel) ?_
    show pm_E _ _ _ 20 [(0, .ref (pl 15)), (1, .ref (pl (60 + 2 * j))), (2, .int (iI p))] [.int (iI 0)] _ _ _ _
    refine pm_e_ret pm_a78_20 rfl rfl rfl rfl rfl rfl rfl rfl ?_
    refine k0 (fun h => ?_)
    obtain ⟨a1, a2, a3, a4⟩ := hT.mp h
    first | omega | exact a4 q q1 q2 q3 q4
  · skip
    show pm_E _ _ _ 9 [(0, .ref (pl 15)), (1, .ref (pl (60 + 2 * j))), (2, .int (iI p))] [] _ _ _ _
    refine pm_e_sim pm_a78_9 rfl ?_
    show pm_E _ _ _ 10 [(0, .ref (pl 15)), (1, .ref (pl (60 + 2 * j))), (2, .int (iI p))] [.ref (pl (60 + 2 * j))] _ _ _ _
    refine pm_e_sim pm_a78_10 rfl ?_
    show pm_E _ _ _ 11 [(0, .ref (pl 15)), (1, .ref (pl (60 + 2 * j))), (2, .int (iI p))] [.int (iI p), .ref (pl (60 + 2 * j))] _ _ _ _
    refine pm_e_sim pm_a78_11 rfl ?_
    refine pm_e_top (y := iI 1) (by decide +kernel) ?_
    show pm_E _ _ _ 12 [(0, .ref (pl 15)), (1, .ref (pl (60 + 2 * j))), (2, .int (iI p))] [.int (iI 1), .int (iI p), .ref (pl (60 + 2 * j))] _ _ _ _
    refine pm_e_sim pm_a78_12 rfl ?_
    refine pm_e_top (y := iI (p + 1)) (iI_add _ _) ?_
    show pm_E _ _ _ 13 [(0, .ref (pl 15)), (1, .ref (pl (60 + 2 * j))), (2, .int (iI p))] [.int (iI (p + 1)), .ref (pl (60 + 2 * j))] _ _ _ _
    refine pm_i_callv (k := (pl (60 + 2 * j))) (T2 := pm_mm47) pm_a78_13 rfl rfl rfl (cg_o hj) ⟨Nat.le_of_ble_eq_true rfl, Nat.le_of_ble_eq_true rfl, rfl, by decide +kernel⟩ ?_
    show pm_E none _ _ 0 [(0, .ref (pl (60 + 2 * j))), (1, .int (iI (p + 1)))] [] _ _ _ _
    have l1 := L1 (by omega)
    refine C_at hW hj rfl hok.1 hok.2.1 ⟨by omega, by omega⟩ ?_
    rw [atI_y (by omega) (by omega)]
    obtain ⟨_, _⟩ := o4 (p + 1)
    show pm_E _ _ _ 16 [(0, .ref (pl 15)), (1, .ref (pl (60 + 2 * j))), (2, .int (iI p))] [.int (iI ((c j).2.2 (p + 1)))] _ _ _ _
    refine pm_i_eq (t := 21) pm_a78_16 rfl ⟨by omega, by omega⟩ (fun h_2 => ?_) (fun h_2 => ?_)
    · skip
      show pm_E _ _ _ 21 [(0, .ref (pl 15)), (1, .ref (pl (60 + 2 * j))), (2, .int (iI p))] [] _ _ _ _
      refine pm_e_sim pm_a78_21 rfl ?_
      show pm_E _ _ _ 22 [(0, .ref (pl 15)), (1, .ref (pl (60 + 2 * j))), (2, .int (iI p))] [.ref (pl 15)] _ _ _ _
      refine pm_i_get pm_a78_22 rfl (cg_15 hW) rfl ?_
      show pm_E _ _ _ 25 [(0, .ref (pl 15)), (1, .ref (pl (60 + 2 * j))), (2, .int (iI p))] [.ref (pl 6)] _ _ _ _
      refine pm_e_sim pm_a78_25 rfl ?_
      show pm_E _ _ _ 26 [(0, .ref (pl 15)), (1, .ref (pl (60 + 2 * j))), (2, .int (iI p))] [.int (iI p), .ref (pl 6)] _ _ _ _
      refine pm_e_sim pm_a78_26 rfl ?_
      refine pm_e_top (y := iI 2) (by decide +kernel) ?_
      show pm_E _ _ _ 27 [(0, .ref (pl 15)), (1, .ref (pl (60 + 2 * j))), (2, .int (iI p))] [.int (iI 2), .int (iI p), .ref (pl 6)] _ _ _ _
      refine pm_e_sim pm_a78_27 rfl ?_
      refine pm_e_top (y := iI (p + 2)) (iI_add _ _) ?_
      show pm_E _ _ _ 28 [(0, .ref (pl 15)), (1, .ref (pl (60 + 2 * j))), (2, .int (iI p))] [.int (iI (p + 2)), .ref (pl 6)] _ _ _ _
      refine pm_i_callv (k := (pl 6)) (T2 := pm_mm72) pm_a78_28 rfl rfl rfl (cg_6 hW) ⟨Nat.le_of_ble_eq_true rfl, Nat.le_of_ble_eq_true rfl, rfl, by decide +kernel⟩ ?_
      show pm_E none _ _ 0 [(0, .ref (pl 6)), (1, .int (iI (p + 2)))] [] _ _ _ _
      have l2 := L2 (by omega) (by omega)
      refine C_endOf hW ⟨by omega, by omega⟩ ?_
      rw [shE_y (by omega) (by omega)]
      show pm_E _ _ _ 31 [(0, .ref (pl 15)), (1, .ref (pl (60 + 2 * j))), (2, .int (iI p))] [.int (iI (a 1 (p + 2)))] _ _ _ _
      refine pm_e_sim pm_a78_31 rfl ?_
      show pm_E _ _ _ 32 [(0, .ref (pl 15)), (1, .ref (pl (60 + 2 * j))), (2, .int (iI p)), (3, .int (iI (a 1 (p + 2))))] [] _ _ _ _
      refine pm_e_sim pm_a78_32 rfl ?_
      show pm_E _ _ _ 33 [(0, .ref (pl 15)), (1, .ref (pl (60 + 2 * j))), (2, .int (iI p)), (3, .int (iI (a 1 (p + 2))))] [.ref (pl (60 + 2 * j))] _ _ _ _
      refine pm_e_sim pm_a78_33 rfl ?_
      show pm_E _ _ _ 34 [(0, .ref (pl 15)), (1, .ref (pl (60 + 2 * j))), (2, .int (iI p)), (3, .int (iI (a 1 (p + 2))))] [.int (iI (a 1 (p + 2))), .ref (pl (60 + 2 * j))] _ _ _ _
      refine pm_i_callv (k := (pl (60 + 2 * j))) (T2 := pm_mm47) pm_a78_34 rfl rfl rfl (cg_o hj) ⟨Nat.le_of_ble_eq_true rfl, Nat.le_of_ble_eq_true rfl, rfl, by decide +kernel⟩ ?_
      show pm_E none _ _ 0 [(0, .ref (pl (60 + 2 * j))), (1, .int (iI (a 1 (p + 2))))] [] _ _ _ _
      refine C_at hW hj rfl hok.1 hok.2.1 ⟨by omega, by omega⟩ ?_
      rw [atI_y (by omega) (by omega)]
      obtain ⟨_, _⟩ := o4 (a 1 (p + 2))
      show pm_E _ _ _ 37 [(0, .ref (pl 15)), (1, .ref (pl (60 + 2 * j))), (2, .int (iI p)), (3, .int (iI (a 1 (p + 2))))] [.int (iI ((c j).2.2 (a 1 (p + 2))))] _ _ _ _
      refine pm_e_sim pm_a78_37 rfl ?_
      refine pm_e_top (y := iI 10) (by decide +kernel) ?_
      show pm_E _ _ _ 39 [(0, .ref (pl 15)), (1, .ref (pl (60 + 2 * j))), (2, .int (iI p)), (3, .int (iI (a 1 (p + 2))))] [.int (iI 10), .int (iI ((c j).2.2 (a 1 (p + 2))))] _ _ _ _
      refine pm_c_ne (t := 66) pm_a78_39 rfl ⟨by omega, by omega⟩ ⟨by omega, by omega⟩ (fun h_3 => ?_) (fun h_3 => ?_)
      · skip
        show pm_E _ _ _ 66 [(0, .ref (pl 15)), (1, .ref (pl (60 + 2 * j))), (2, .int (iI p)), (3, .int (iI (a 1 (p + 2))))] [] _ _ _ _
        refine pm_e_sim pm_a78_66 rfl ?_
        refine pm_e_top (y := iI 0) (by decide +kernel) ?_
        show pm_E _ _ _ 67 [(0, .ref (pl 15)), (1, .ref (pl (60 + 2 * j))), (2, .int (iI p)), (3, .int (iI (a 1 (p + 2))))] [.int (iI 0)] _ _ _ _
        refine pm_e_ret pm_a78_67 rfl rfl rfl rfl rfl rfl rfl rfl ?_
        refine k0 (fun h => ?_)
        obtain ⟨a1, a2, a3, a4⟩ := hT.mp h
        first | omega | exact a4 q q1 q2 q3 q4
      · skip
        show pm_E _ _ _ 42 [(0, .ref (pl 15)), (1, .ref (pl (60 + 2 * j))), (2, .int (iI p)), (3, .int (iI (a 1 (p + 2))))] [] _ _ _ _
        refine pm_e_sim pm_a78_42 rfl ?_
        show pm_E _ _ _ 43 [(0, .ref (pl 15)), (1, .ref (pl (60 + 2 * j))), (2, .int (iI p)), (3, .int (iI (a 1 (p + 2))))] [.ref (pl 15)] _ _ _ _
        refine pm_e_sim pm_a78_43 rfl ?_
        show pm_E _ _ _ 44 [(0, .ref (pl 15)), (1, .ref (pl (60 + 2 * j))), (2, .int (iI p)), (3, .int (iI (a 1 (p + 2))))] [.ref (pl (60 + 2 * j)), .ref (pl 15)] _ _ _ _
        refine pm_e_sim pm_a78_44 rfl ?_
        show pm_E _ _ _ 45 [(0, .ref (pl 15)), (1, .ref (pl (60 + 2 * j))), (2, .int (iI p)), (3, .int (iI (a 1 (p + 2))))] [.int (iI p), .ref (pl (60 + 2 * j)), .ref (pl 15)] _ _ _ _
        refine pm_e_sim pm_a78_45 rfl ?_
        refine pm_e_top (y := iI 2) (by decide +kernel) ?_
        show pm_E _ _ _ 46 [(0, .ref (pl 15)), (1, .ref (pl (60 + 2 * j))), (2, .int (iI p)), (3, .int (iI (a 1 (p + 2))))] [.int (iI 2), .int (iI p), .ref (pl (60 + 2 * j)), .ref (pl 15)] _ _ _ _
        refine pm_e_sim pm_a78_46 rfl ?_
        refine pm_e_top (y := iI (p + 2)) (iI_add _ _) ?_
        show pm_E _ _ _ 47 [(0, .ref (pl 15)), (1, .ref (pl (60 + 2 * j))), (2, .int (iI p)), (3, .int (iI (a 1 (p + 2))))] [.int (iI (p + 2)), .ref (pl (60 + 2 * j)), .ref (pl 15)] _ _ _ _
        refine pm_e_sim pm_a78_47 rfl ?_
        show pm_E _ _ _ 48 [(0, .ref (pl 15)), (1, .ref (pl (60 + 2 * j))), (2, .int (iI p)), (3, .int (iI (a 1 (p + 2))))] [.int (iI (a 1 (p + 2))), .int (iI (p + 2)), .ref (pl (60 + 2 * j)), .ref (pl 15)] _ _ _ _
        refine pm_e_sim pm_a78_48 rfl ?_
        show pm_E _ _ _ 49 [(0, .ref (pl 15)), (1, .ref (pl (60 + 2 * j))), (2, .int (iI p)), (3, .int (iI (a 1 (p + 2))))] [.ref (pl 15), .int (iI (a 1 (p + 2))), .int (iI (p + 2)), .ref (pl (60 + 2 * j)), .ref (pl 15)] _ _ _ _
        refine pm_i_get pm_a78_49 rfl (cg_15 hW) rfl ?_
        show pm_E _ _ _ 52 [(0, .ref (pl 15)), (1, .ref (pl (60 + 2 * j))), (2, .int (iI p)), (3, .int (iI (a 1 (p + 2))))] [.ref (pl 6), .int (iI (a 1 (p + 2))), .int (iI (p + 2)), .ref (pl (60 + 2 * j)), .ref (pl 15)] _ _ _ _
        refine pm_e_sim pm_a78_52 rfl ?_
        show pm_E _ _ _ 53 [(0, .ref (pl 15)), (1, .ref (pl (60 + 2 * j))), (2, .int (iI p)), (3, .int (iI (a 1 (p + 2))))] [.int (iI p), .ref (pl 6), .int (iI (a 1 (p + 2))), .int (iI (p + 2)), .ref (pl (60 + 2 * j)), .ref (pl 15)] _ _ _ _
        refine pm_i_callv (k := (pl 6)) (T2 := pm_mm75) pm_a78_53 rfl rfl rfl (cg_6 hW) ⟨Nat.le_of_ble_eq_true rfl, Nat.le_of_ble_eq_true rfl, rfl, by decide +kernel⟩ ?_
        show pm_E none _ _ 0 [(0, .ref (pl 6)), (1, .int (iI p))] [] _ _ _ _
        refine C_depthOf hW ⟨by omega, by omega⟩ ?_
        rw [shD_y (by omega) (by omega)]
        show pm_E _ _ _ 56 [(0, .ref (pl 15)), (1, .ref (pl (60 + 2 * j))), (2, .int (iI p)), (3, .int (iI (a 1 (p + 2))))] [.int (iI (a 2 p)), .int (iI (a 1 (p + 2))), .int (iI (p + 2)), .ref (pl (60 + 2 * j)), .ref (pl 15)] _ _ _ _
        refine pm_i_callv (k := (pl 15)) (T2 := pm_mm79) pm_a78_56 rfl rfl rfl (cg_15 hW) ⟨Nat.le_of_ble_eq_true rfl, Nat.le_of_ble_eq_true rfl, rfl, by decide +kernel⟩ ?_
        show pm_E none _ _ 0 [(0, .ref (pl 15)), (1, .ref (pl (60 + 2 * j))), (2, .int (iI (p + 2))), (3, .int (iI (a 1 (p + 2)))), (4, .int (iI (a 2 p)))] [] _ _ _ _
        refine C_isBoundIn hW hj rfl hok (by omega) (by omega) (by omega) (L3 p (by omega) (by omega)) (fun q a b => L3 q (by omega) (by omega)) (fun q q1 q2 q3 q4 => ?_) (fun hb => ?_)
        · skip
          show pm_E _ _ _ 59 [(0, .ref (pl 15)), (1, .ref (pl (60 + 2 * j))), (2, .int (iI p)), (3, .int (iI (a 1 (p + 2))))] [.int (iI 1)] _ _ _ _
          refine pm_e_ift pm_a78_59 rfl (by decide +kernel) ?_
          show pm_E _ _ _ 66 [(0, .ref (pl 15)), (1, .ref (pl (60 + 2 * j))), (2, .int (iI p)), (3, .int (iI (a 1 (p + 2))))] [] _ _ _ _
          refine pm_e_sim pm_a78_66 rfl ?_
          refine pm_e_top (y := iI 0) (by decide +kernel) ?_
          show pm_E _ _ _ 67 [(0, .ref (pl 15)), (1, .ref (pl (60 + 2 * j))), (2, .int (iI p)), (3, .int (iI (a 1 (p + 2))))] [.int (iI 0)] _ _ _ _
          refine pm_e_ret pm_a78_67 rfl rfl rfl rfl rfl rfl rfl rfl ?_
          refine k0 (fun h => ?_)
          obtain ⟨a1, a2, a3, a4⟩ := hT.mp h
          first | omega | exact a4 q q1 q2 q3 q4
        · skip
          show pm_E _ _ _ 59 [(0, .ref (pl 15)), (1, .ref (pl (60 + 2 * j))), (2, .int (iI p)), (3, .int (iI (a 1 (p + 2))))] [.int (iI 0)] _ _ _ _
          refine pm_e_iff pm_a78_59 rfl (by decide +kernel) ?_
          show pm_E _ _ _ 62 [(0, .ref (pl 15)), (1, .ref (pl (60 + 2 * j))), (2, .int (iI p)), (3, .int (iI (a 1 (p + 2))))] [] _ _ _ _
          refine pm_e_sim pm_a78_62 rfl ?_
          refine pm_e_top (y := iI 1) (by decide +kernel) ?_
          show pm_E _ _ _ 63 [(0, .ref (pl 15)), (1, .ref (pl (60 + 2 * j))), (2, .int (iI p)), (3, .int (iI (a 1 (p + 2))))] [.int (iI 1)] _ _ _ _
          refine pm_e_goto pm_a78_63 rfl ?_
          show pm_E _ _ _ 67 [(0, .ref (pl 15)), (1, .ref (pl (60 + 2 * j))), (2, .int (iI p)), (3, .int (iI (a 1 (p + 2))))] [.int (iI 1)] _ _ _ _
          refine pm_e_ret pm_a78_67 rfl rfl rfl rfl rfl rfl rfl rfl ?_
          exact k1 (hT.mpr ⟨by omega, by omega, by omega, hb⟩)
    · skip
      show pm_E _ _ _ 19 [(0, .ref (pl 15)), (1, .ref (pl (60 + 2 * j))), (2, .int (iI p))] [] _ _ _ _
      refine pm_e_sim pm_a78_19 rfl ?_
      refine pm_e_top (y := iI 0) (by decide +kernel) ?_
      show pm_E _ _ _ 20 [(0, .ref (pl 15)), (1, .ref (pl (60 + 2 * j))), (2, .int (iI p))] [.int (iI 0)] _ _ _ _
      refine pm_e_ret pm_a78_20 rfl rfl rfl rfl rfl rfl rfl rfl ?_
      refine k0 (fun h => ?_)
      obtain ⟨a1, a2, a3, a4⟩ := hT.mp h
      first | omega | exact a4 q q1 q2 q3 q4
set_option maxHeartbeats 4000000 in
set_option maxRecDepth 100000 in
theorem C_shorterPlace_l {d n : Nat} {kd pl : Nat → Nat} {s : Nat → Int} {a : Nat → Int → Int} {c : Nat → cdt} {M : List va_E} {Q : Option Value → List va_E → Nat → Nat → Prop} {j : Nat} {k0_ : Int} {ft fd : Nat} (hW : wf n kd pl) (hj : j < 38 ∧ al n kd pl (60 + 2 * j)) (hok : okx (rm j) (c j)) (ht : tm (c j).2.2 ft k0_ 0 (c j).1) (hd : dp (c j).2.2 (a 2) fd 0 0 (c j).1) (he : en (c j).2.2 (a 1) 0 (c j).1) (k : ∀ r, fsx (fun p => thn (c j).2.2 p) (c j).1 r → Q (some (.int (iI r))) (ch n kd pl s a c M) 0 0) : ∀ (f : Nat) (i : Int), 0 ≤ i → i ≤ (c j).1 → (∀ q, 0 ≤ q → q < i → ¬ thn (c j).2.2 q) → (c j).1 - i < (f : Int) → pm_E none (d + 4) pm_mm77 15 [(0, .ref (pl 15)), (1, .ref (pl (60 + 2 * j))), (2, .int (iI i))] [] (ch n kd pl s a c M) 0 0 Q := by
  intro f
  induction f with
  | zero =>
    intro i hi0 hi1 hi hf
    exfalso; omega
  | succ f ih =>
    intro i hi0 hi1 hi hf
    have rb := rm_b j
    obtain ⟨o1, o2, o3, o4⟩ := id hok
    refine pm_e_sim pm_a77_15 rfl ?_
    show pm_E _ _ _ 16 [(0, .ref (pl 15)), (1, .ref (pl (60 + 2 * j))), (2, .int (iI i))] [.int (iI i)] _ _ _ _
    refine pm_e_sim pm_a77_16 rfl ?_
    show pm_E _ _ _ 17 [(0, .ref (pl 15)), (1, .ref (pl (60 + 2 * j))), (2, .int (iI i))] [.ref (pl (60 + 2 * j)), .int (iI i)] _ _ _ _
    refine pm_i_get pm_a77_17 rfl (cg_o hj) rfl ?_
    show pm_E _ _ _ 20 [(0, .ref (pl 15)), (1, .ref (pl (60 + 2 * j))), (2, .int (iI i))] [.int (iI ((c j).1)), .int (iI i)] _ _ _ _
    refine pm_c_ge (t := 40) pm_a77_20 rfl ⟨by omega, by omega⟩ ⟨by omega, by omega⟩ (fun h_1 => ?_) (fun h_1 => ?_)
    · skip
      show pm_E _ _ _ 40 [(0, .ref (pl 15)), (1, .ref (pl (60 + 2 * j))), (2, .int (iI i))] [] _ _ _ _
      refine pm_e_sim pm_a77_40 rfl ?_
      refine pm_e_top (y := iI (-4)) (by decide +kernel) ?_
      show pm_E _ _ _ 42 [(0, .ref (pl 15)), (1, .ref (pl (60 + 2 * j))), (2, .int (iI i))] [.int (iI (-4))] _ _ _ _
      refine pm_e_ret pm_a77_42 rfl rfl rfl rfl rfl rfl rfl rfl ?_
      exact k (-4) (Or.inl ⟨rfl, fun q a b c => hi q a (by omega) c⟩)
    · skip
      show pm_E _ _ _ 23 [(0, .ref (pl 15)), (1, .ref (pl (60 + 2 * j))), (2, .int (iI i))] [] _ _ _ _
      refine pm_e_sim pm_a77_23 rfl ?_
      show pm_E _ _ _ 24 [(0, .ref (pl 15)), (1, .ref (pl (60 + 2 * j))), (2, .int (iI i))] [.ref (pl 15)] _ _ _ _
      refine pm_e_sim pm_a77_24 rfl ?_
      show pm_E _ _ _ 25 [(0, .ref (pl 15)), (1, .ref (pl (60 + 2 * j))), (2, .int (iI i))] [.ref (pl (60 + 2 * j)), .ref (pl 15)] _ _ _ _
      refine pm_e_sim pm_a77_25 rfl ?_
      show pm_E _ _ _ 26 [(0, .ref (pl 15)), (1, .ref (pl (60 + 2 * j))), (2, .int (iI i))] [.int (iI i), .ref (pl (60 + 2 * j)), .ref (pl 15)] _ _ _ _
      refine pm_i_callv (k := (pl 15)) (T2 := pm_mm78) pm_a77_26 rfl rfl rfl (cg_15 hW) ⟨Nat.le_of_ble_eq_true rfl, Nat.le_of_ble_eq_true rfl, rfl, by decide +kernel⟩ ?_
      show pm_E none _ _ 0 [(0, .ref (pl 15)), (1, .ref (pl (60 + 2 * j))), (2, .int (iI i))] [] _ _ _ _
      refine C_isShortened hW hj rfl hok ht hd he (by omega) (by omega) (fun hs => ?_) (fun hs => ?_)
      · skip
        show pm_E _ _ _ 29 [(0, .ref (pl 15)), (1, .ref (pl (60 + 2 * j))), (2, .int (iI i))] [.int (iI 1)] _ _ _ _
        refine pm_e_iff pm_a77_29 rfl (by decide +kernel) ?_
        show pm_E _ _ _ 32 [(0, .ref (pl 15)), (1, .ref (pl (60 + 2 * j))), (2, .int (iI i))] [] _ _ _ _
        refine pm_e_sim pm_a77_32 rfl ?_
        show pm_E _ _ _ 33 [(0, .ref (pl 15)), (1, .ref (pl (60 + 2 * j))), (2, .int (iI i))] [.int (iI i)] _ _ _ _
        refine pm_e_ret pm_a77_33 rfl rfl rfl rfl rfl rfl rfl rfl ?_
        exact k i (Or.inr ⟨by omega, by omega, hs, fun q a b c => hi q a b c⟩)
      · skip
        show pm_E _ _ _ 29 [(0, .ref (pl 15)), (1, .ref (pl (60 + 2 * j))), (2, .int (iI i))] [.int (iI 0)] _ _ _ _
        refine pm_e_ift pm_a77_29 rfl (by decide +kernel) ?_
        show pm_E _ _ _ 34 [(0, .ref (pl 15)), (1, .ref (pl (60 + 2 * j))), (2, .int (iI i))] [] _ _ _ _
        refine pm_e_inc (y := iI (i + 1)) pm_a77_34 rfl (iI_add _ _) (by decide +kernel) rfl ?_
        show pm_E _ _ _ 37 [(0, .ref (pl 15)), (1, .ref (pl (60 + 2 * j))), (2, .int (iI (i + 1)))] [] _ _ _ _
        refine pm_e_goto pm_a77_37 rfl ?_
        show pm_E _ _ _ 15 [(0, .ref (pl 15)), (1, .ref (pl (60 + 2 * j))), (2, .int (iI (i + 1)))] [] _ _ _ _
        refine ih _ (by omega) (by omega) (fun q a b => ?_) (by omega)
        by_cases hq : q = i
        · rw [hq]; exact hs
        · exact hi q a (by omega)
set_option maxHeartbeats 4000000 in
set_option maxRecDepth 100000 in
theorem C_shorterPlace {d n : Nat} {kd pl : Nat → Nat} {s : Nat → Int} {a : Nat → Int → Int} {c : Nat → cdt} {M : List va_E} {Q : Option Value → List va_E → Nat → Nat → Prop} {j : Nat} {y : cdt} {ft : Nat} {k0 : Int} (hW : wf n kd pl) (hj : j < 38 ∧ al n kd pl (60 + 2 * j)) (hy : c j = y) (hok : okx (rm j) y) (hin : ∀ q, in32 (a 1 q)) (ht : tm y.2.2 ft k0 0 y.1) (k : ∀ E D r, (∀ r, in32 (E r)) → fsx (fun p => thn y.2.2 p) y.1 r → Q (some (.int (iI r))) (ch n kd pl s (updA (updA a 1 E) 2 D) c M) 0 0) : pm_E none (d + 4) pm_mm77 0 [(0, .ref (pl 15)), (1, .ref (pl (60 + 2 * j)))] [] (ch n kd pl s a c M) 0 0 Q := by
  subst hy
  have rb := rm_b j
  obtain ⟨o1, o2, o3, o4⟩ := id hok
  refine pm_e_sim pm_a77_0 rfl ?_
  show pm_E _ _ _ 1 [(0, .ref (pl 15)), (1, .ref (pl (60 + 2 * j)))] [.ref (pl 15)] _ _ _ _
  refine pm_i_get pm_a77_1 rfl (cg_15 hW) rfl ?_
  show pm_E _ _ _ 4 [(0, .ref (pl 15)), (1, .ref (pl (60 + 2 * j)))] [.ref (pl 6)] _ _ _ _
  refine pm_e_sim pm_a77_4 rfl ?_
  show pm_E _ _ _ 5 [(0, .ref (pl 15)), (1, .ref (pl (60 + 2 * j)))] [.ref (pl (60 + 2 * j)), .ref (pl 6)] _ _ _ _
  refine pm_e_sim pm_a77_5 rfl ?_
  refine pm_e_top (y := iI 0) (by decide +kernel) ?_
  show pm_E _ _ _ 6 [(0, .ref (pl 15)), (1, .ref (pl (60 + 2 * j)))] [.int (iI 0), .ref (pl (60 + 2 * j)), .ref (pl 6)] _ _ _ _
  refine pm_e_sim pm_a77_6 rfl ?_
  show pm_E _ _ _ 7 [(0, .ref (pl 15)), (1, .ref (pl (60 + 2 * j)))] [.ref (pl (60 + 2 * j)), .int (iI 0), .ref (pl (60 + 2 * j)), .ref (pl 6)] _ _ _ _
  refine pm_i_get pm_a77_7 rfl (cg_o hj) rfl ?_
  show pm_E _ _ _ 10 [(0, .ref (pl 15)), (1, .ref (pl (60 + 2 * j)))] [.int (iI ((c j).1)), .int (iI 0), .ref (pl (60 + 2 * j)), .ref (pl 6)] _ _ _ _
  refine pm_i_callv (k := (pl 6)) (T2 := pm_mm70) pm_a77_10 rfl rfl rfl (cg_6 hW) ⟨Nat.le_of_ble_eq_true rfl, Nat.le_of_ble_eq_true rfl, rfl, by decide +kernel⟩ ?_
  show pm_E none _ _ 0 [(0, .ref (pl 6)), (1, .ref (pl (60 + 2 * j))), (2, .int (iI 0)), (3, .int (iI ((c j).1)))] [] _ _ _ _
  refine C_measure hW hj rfl hok hin (by omega) (by omega) ht (fun E D h1 h2 h3 => ?_)
  show pm_E _ _ _ 13 [(0, .ref (pl 15)), (1, .ref (pl (60 + 2 * j)))] [] _ _ _ _
  refine pm_e_sim pm_a77_13 rfl ?_
  refine pm_e_top (y := iI 0) (by decide +kernel) ?_
  show pm_E _ _ _ 14 [(0, .ref (pl 15)), (1, .ref (pl (60 + 2 * j)))] [.int (iI 0)] _ _ _ _
  refine pm_e_sim pm_a77_14 rfl ?_
  show pm_E _ _ _ 15 [(0, .ref (pl 15)), (1, .ref (pl (60 + 2 * j))), (2, .int (iI 0))] [] _ _ _ _
  refine C_shorterPlace_l (a := updA (updA a 1 E) 2 D) hW hj hok ht h2 h1 (fun r hr => k E D r h3 hr) ((c j).1.toNat + 1) 0 (by omega) (by omega) (fun q a b => by omega) (by omega)
theorem rul_all {y : cdt} {f : Nat} {k : Int} (t : tm y.2.2 f k 0 y.1) (p : Int) (h0 : 0 ≤ p) (h1 : p < y.1) : rul y p ≠ -1 ↔ rdx y.2.2 p = 1 := by
  obtain ⟨f1, k1, e1, t1, h, _⟩ := tm_sub t p h0 h1
  exact rul_rdx t1 h0 h
theorem nrx_0 {y : cdt} {f : Nat} {k r : Int} (t : tm y.2.2 f k 0 y.1) (h : fsx (fun p => rul y p ≠ -1) y.1 r) : nrx y.2.2 y.1 0 r :=
  fsx_eq (P' := cnd y.2.2 0) (fun p a b => ⟨fun h => Or.inr ⟨by decide, (rul_all t p a b).mp h, fun h => by omega, fun h => by omega⟩, fun h => by
    rcases h with ⟨h, _⟩ | ⟨_, h, _⟩
    · omega
    · exact (rul_all t p a b).mpr h⟩) h
theorem nrx_1 {y : cdt} {E : Int → Int} {f : Nat} {k r : Int} (t : tm y.2.2 f k 0 y.1) (he : en y.2.2 E 0 y.1) (h : fsx (fun p => rul y p ≠ -1 ∧ ∀ q, p < q → q < E p → rul y q = -1) y.1 r) : nrx y.2.2 y.1 1 r :=
  fsx_eq (P' := cnd y.2.2 1) (fun p a b => by
    obtain ⟨f1, k1, t1⟩ := he p a b
    have hl := en_le t he p a b
    constructor
    · rintro ⟨h1, h2⟩
      refine Or.inr ⟨by decide, (rul_all t p a b).mp h1, fun _ m f' k' t' j j1 j2 => ?_, fun h => by omega⟩
      have := tm_one t1 t'
      rcases rdx_in y.2.2 j with h | h
      · exact h
      · exact absurd (h2 j j1 (by omega)) ((rul_all t j (by omega) (by omega)).mpr h)
    · intro h
      rcases h with ⟨h, _⟩ | ⟨_, h1, h2, _⟩
      · omega
      · refine ⟨(rul_all t p a b).mpr h1, fun q q1 q2 => ?_⟩
        have := h2 rfl (E p) f1 k1 t1 q q1 q2
        by_cases hq : rul y q = -1
        · exact hq
        · have := (rul_all t q (by omega) (by omega)).mp hq; omega) h
theorem nrx_2 {y : cdt} {f : Nat} {k r : Int} (t : tm y.2.2 f k 0 y.1) (h : fsx (fun p => rul y p ≠ -1 ∧ ∀ q, 0 ≤ q → q ≤ p → atI y q = 0) y.1 r) : nrx y.2.2 y.1 2 r :=
  fsx_eq (P' := cnd y.2.2 2) (fun p a b => ⟨fun h => Or.inr ⟨by decide, (rul_all t p a b).mp h.1, fun h => by omega, fun _ q q1 q2 => by rw [← h.2 q q1 q2, atI_y q1 (by omega)]⟩, fun h => by
    rcases h with ⟨h, _⟩ | ⟨_, h, _, h2⟩
    · omega
    · exact ⟨(rul_all t p a b).mpr h, fun q q1 q2 => by rw [atI_y q1 (by omega)]; exact h2 rfl q q1 q2⟩⟩) h
theorem nrx_3 {y : cdt} {r : Int} (h : fsx (fun p => thn y.2.2 p) y.1 r) : nrx y.2.2 y.1 3 r :=
  fsx_eq (P' := cnd y.2.2 3) (fun p a b => ⟨fun h => Or.inl ⟨rfl, h⟩, fun h => by
    rcases h with ⟨_, h⟩ | ⟨h, _⟩
    · exact h
    · omega⟩) h
/-- the shape is measured anew -/
def shM (a a' : Nat → Int → Int) : Prop := (∀ i, i ≠ 1 → i ≠ 2 → a' i = a i) ∧ ∀ q, in32 (a' 1 q)
theorem shM_m {a : Nat → Int → Int} {E D : Int → Int} (h : ∀ q, in32 (E q)) : shM a (updA (updA a 1 E) 2 D) := ⟨fun i h1 h2 => by unfold updA; rw [if_neg h2, if_neg h1], h⟩
theorem shM_r {a : Nat → Int → Int} (h : ∀ q, in32 (a 1 q)) : shM a a := ⟨fun _ _ _ => rfl, h⟩
theorem shM_t {a b e : Nat → Int → Int} (h : shM a b) (h' : shM b e) : shM a e := ⟨fun i h1 h2 => by rw [h'.1 i h1 h2, h.1 i h1 h2], h'.2⟩
set_option maxHeartbeats 4000000 in
set_option maxRecDepth 100000 in
theorem C_place {d n : Nat} {kd pl : Nat → Nat} {s : Nat → Int} {a : Nat → Int → Int} {c : Nat → cdt} {M : List va_E} {Q : Option Value → List va_E → Nat → Nat → Prop} {j : Nat} {w k0 : Int} {y : cdt} {ft : Nat} (hW : wf n kd pl) (hj : j < 38 ∧ al n kd pl (60 + 2 * j)) (hy : c j = y) (hok : okx (rm j) y) (hin : ∀ q, in32 (a 1 q)) (ht : tm y.2.2 ft k0 0 y.1) (hw : 0 ≤ w ∧ w ≤ 3) (k : ∀ a' r, shM a a' → nrx y.2.2 y.1 w r → Q (some (.int (iI r))) (ch n kd pl s a' c M) 0 0) : pm_E none (d + 5) pm_mm66 0 [(0, .ref (pl 15)), (1, .ref (pl (60 + 2 * j))), (2, .int (iI w))] [] (ch n kd pl s a c M) 0 0 Q := by
  subst hy
  have rb := rm_b j
  obtain ⟨o1, o2, o3, o4⟩ := id hok
  refine pm_e_sim pm_a66_0 rfl ?_
  show pm_E _ _ _ 1 [(0, .ref (pl 15)), (1, .ref (pl (60 + 2 * j))), (2, .int (iI w))] [.int (iI w)] _ _ _ _
  by_cases h_1 : w = 0
  · skip
    refine pm_e_top (y := iI 0) (congrArg iI h_1) ?_
    refine pm_e_tsi (t := 28) pm_a66_1 rfl rfl ?_
    show pm_E _ _ _ 28 [(0, .ref (pl 15)), (1, .ref (pl (60 + 2 * j))), (2, .int (iI w))] [] _ _ _ _
    refine pm_e_sim pm_a66_28 rfl ?_
    show pm_E _ _ _ 29 [(0, .ref (pl 15)), (1, .ref (pl (60 + 2 * j))), (2, .int (iI w))] [.ref (pl 15)] _ _ _ _
    refine pm_e_sim pm_a66_29 rfl ?_
    show pm_E _ _ _ 30 [(0, .ref (pl 15)), (1, .ref (pl (60 + 2 * j))), (2, .int (iI w))] [.ref (pl (60 + 2 * j)), .ref (pl 15)] _ _ _ _
    refine pm_i_callv (k := (pl 15)) (T2 := pm_mm67) pm_a66_30 rfl rfl rfl (cg_15 hW) ⟨Nat.le_of_ble_eq_true rfl, Nat.le_of_ble_eq_true rfl, rfl, by decide +kernel⟩ ?_
    show pm_E none _ _ 0 [(0, .ref (pl 15)), (1, .ref (pl (60 + 2 * j)))] [] _ _ _ _
    refine C_firstPlace hW hj rfl hok (fun r hr => ?_)
    show pm_E _ _ _ 33 [(0, .ref (pl 15)), (1, .ref (pl (60 + 2 * j))), (2, .int (iI w))] [.int (iI r)] _ _ _ _
    refine pm_e_ret pm_a66_33 rfl rfl rfl rfl rfl rfl rfl rfl ?_
    exact k a r (shM_r hin) (by rw [show w = 0 by omega]; exact nrx_0 ht hr)
  by_cases h_2 : w = 1
  · skip
    refine pm_e_top (y := iI 1) (congrArg iI h_2) ?_
    refine pm_e_tsi (t := 34) pm_a66_1 rfl rfl ?_
    show pm_E _ _ _ 34 [(0, .ref (pl 15)), (1, .ref (pl (60 + 2 * j))), (2, .int (iI w))] [] _ _ _ _
    refine pm_e_sim pm_a66_34 rfl ?_
    show pm_E _ _ _ 35 [(0, .ref (pl 15)), (1, .ref (pl (60 + 2 * j))), (2, .int (iI w))] [.ref (pl 15)] _ _ _ _
    refine pm_e_sim pm_a66_35 rfl ?_
    show pm_E _ _ _ 36 [(0, .ref (pl 15)), (1, .ref (pl (60 + 2 * j))), (2, .int (iI w))] [.ref (pl (60 + 2 * j)), .ref (pl 15)] _ _ _ _
    refine pm_i_callv (k := (pl 15)) (T2 := pm_mm69) pm_a66_36 rfl rfl rfl (cg_15 hW) ⟨Nat.le_of_ble_eq_true rfl, Nat.le_of_ble_eq_true rfl, rfl, by decide +kernel⟩ ?_
    show pm_E none _ _ 0 [(0, .ref (pl 15)), (1, .ref (pl (60 + 2 * j)))] [] _ _ _ _
    refine C_innerPlace hW hj rfl hok hin ht (fun E D r he h3 hr => ?_)
    show pm_E _ _ _ 39 [(0, .ref (pl 15)), (1, .ref (pl (60 + 2 * j))), (2, .int (iI w))] [.int (iI r)] _ _ _ _
    refine pm_e_ret pm_a66_39 rfl rfl rfl rfl rfl rfl rfl rfl ?_
    exact k _ r (shM_m h3) (by rw [show w = 1 by omega]; exact nrx_1 ht he hr)
  by_cases h_3 : w = 2
  · skip
    refine pm_e_top (y := iI 2) (congrArg iI h_3) ?_
    refine pm_e_tsi (t := 40) pm_a66_1 rfl rfl ?_
    show pm_E _ _ _ 40 [(0, .ref (pl 15)), (1, .ref (pl (60 + 2 * j))), (2, .int (iI w))] [] _ _ _ _
    refine pm_e_sim pm_a66_40 rfl ?_
    show pm_E _ _ _ 41 [(0, .ref (pl 15)), (1, .ref (pl (60 + 2 * j))), (2, .int (iI w))] [.ref (pl 15)] _ _ _ _
    refine pm_e_sim pm_a66_41 rfl ?_
    show pm_E _ _ _ 42 [(0, .ref (pl 15)), (1, .ref (pl (60 + 2 * j))), (2, .int (iI w))] [.ref (pl (60 + 2 * j)), .ref (pl 15)] _ _ _ _
    refine pm_i_callv (k := (pl 15)) (T2 := pm_mm76) pm_a66_42 rfl rfl rfl (cg_15 hW) ⟨Nat.le_of_ble_eq_true rfl, Nat.le_of_ble_eq_true rfl, rfl, by decide +kernel⟩ ?_
    show pm_E none _ _ 0 [(0, .ref (pl 15)), (1, .ref (pl (60 + 2 * j)))] [] _ _ _ _
    refine C_headPlace hW hj rfl hok (fun r hr => ?_)
    show pm_E _ _ _ 45 [(0, .ref (pl 15)), (1, .ref (pl (60 + 2 * j))), (2, .int (iI w))] [.int (iI r)] _ _ _ _
    refine pm_e_ret pm_a66_45 rfl rfl rfl rfl rfl rfl rfl rfl ?_
    exact k a r (shM_r hin) (by rw [show w = 2 by omega]; exact nrx_2 ht hr)
  refine pm_e_tso (t := 46) pm_a66_1 (by rw [iI_t ⟨by omega, by omega⟩]; omega) rfl ?_
  show pm_E _ _ _ 46 [(0, .ref (pl 15)), (1, .ref (pl (60 + 2 * j))), (2, .int (iI w))] [] _ _ _ _
  refine pm_e_sim pm_a66_46 rfl ?_
  show pm_E _ _ _ 47 [(0, .ref (pl 15)), (1, .ref (pl (60 + 2 * j))), (2, .int (iI w))] [.ref (pl 15)] _ _ _ _
  refine pm_e_sim pm_a66_47 rfl ?_
  show pm_E _ _ _ 48 [(0, .ref (pl 15)), (1, .ref (pl (60 + 2 * j))), (2, .int (iI w))] [.ref (pl (60 + 2 * j)), .ref (pl 15)] _ _ _ _
  refine pm_i_callv (k := (pl 15)) (T2 := pm_mm77) pm_a66_48 rfl rfl rfl (cg_15 hW) ⟨Nat.le_of_ble_eq_true rfl, Nat.le_of_ble_eq_true rfl, rfl, by decide +kernel⟩ ?_
  show pm_E none _ _ 0 [(0, .ref (pl 15)), (1, .ref (pl (60 + 2 * j)))] [] _ _ _ _
  refine C_shorterPlace hW hj rfl hok hin ht (fun E D r h3 hr => ?_)
  show pm_E _ _ _ 51 [(0, .ref (pl 15)), (1, .ref (pl (60 + 2 * j))), (2, .int (iI w))] [.int (iI r)] _ _ _ _
  refine pm_e_ret pm_a66_51 rfl rfl rfl rfl rfl rfl rfl rfl ?_
  exact k _ r (shM_m h3) (by rw [show w = 3 by omega]; exact nrx_3 hr)
