/-! THE CLASS: Turner: putTurned, turn -/
theorem rul_c (y : cdt) (p : Int) : rul y p = -1 ∨ (rul y p = 1 ∧ atI y p = 0 ∧ atI y (p + 1) = 1) ∨ (rul y p = 4 ∧ atI y p = 0 ∧ atI y (p + 1) = 4) ∨ (rul y p = 3 ∧ atI y p = 0 ∧ atI y (p + 1) = 0 ∧ atI y (p + 2) = 3) ∨ (rul y p = 2 ∧ atI y p = 0 ∧ atI y (p + 1) = 0 ∧ atI y (p + 2) = 0 ∧ atI y (p + 3) = 2) := by
  unfold rul
  repeat' split
  all_goals omega
theorem atI_c {y : cdt} {p v : Int} (h : atI y p = v) (hv : v ≠ -1) : y.2.2 p = v := by
  unfold atI at h
  split at h
  · exact h
  · omega
theorem beta_parts {g D E : Int → Int} {f f0 : Nat} {k k' p e : Int} (t : tm g f k p e) (hd : dp g D f0 k' p e) (he : en g E p e) (h0 : g p = 0) (h1 : g (p + 1) = 1) : ∃ (u : Int) (fa : Nat) (ka : Int) (fb : Nat) (kb : Int) (fc fd : Nat), tm g fa ka (p + 2) u ∧ tm g fb kb u e ∧ dp g D fc (k' + 1) (p + 2) u ∧ dp g D fd k' u e ∧ E (p + 2) = u ∧ p + 2 < u ∧ u < e := by
  obtain ⟨fa, u, ta, tb, _⟩ := tm_app t h0
  obtain ⟨fb, tc, _⟩ := tm_lam ta h1
  obtain ⟨fc, u2, da, db⟩ := dp_app hd h0
  obtain ⟨fd, dc⟩ := dp_lam da h1
  rw [show p + 1 + 1 = p + 2 by omega] at tc dc
  have eu := dp_tm_end ta da
  subst eu
  have l1 := tm_lt tc; have l2 := tm_lt tb
  obtain ⟨fx, kx, tx⟩ := he (p + 2) (by omega) (by omega)
  exact ⟨u, fb, _, fa, _, fd, fc, tc, tb, dc, db, tm_one tx tc, l1, l2⟩
theorem eta_parts {g D E : Int → Int} {f f0 : Nat} {k k' p e : Int} (t : tm g f k p e) (hd : dp g D f0 k' p e) (he : en g E p e) (ht : thn g p) : ∃ (u : Int) (fa : Nat) (ka : Int) (fc fd : Nat), tm g fa ka (p + 2) u ∧ dp g D fc (k' + 1) (p + 2) u ∧ dp g D fd (k' + 1) u e ∧ E (p + 2) = u ∧ p + 2 < u ∧ u < e ∧ ∀ q, p + 2 ≤ q → q < u → g q ≠ 10 + (D q - (k' + 1)) := by
  obtain ⟨h0, h1, m, f1, k1, D1, t1, d1, _, h3⟩ := ht
  obtain ⟨fa, ta, _⟩ := tm_lam t h0
  obtain ⟨fb, u, tb, tc, _⟩ := tm_app ta h1
  obtain ⟨fc, da⟩ := dp_lam hd h0
  obtain ⟨fd, u2, db, dc⟩ := dp_app da h1
  rw [show p + 1 + 1 = p + 2 by omega] at tb db
  have eu := dp_tm_end tb db
  subst eu
  have em := tm_one t1 tb
  subst em
  have l1 := tm_lt tb; have l2 := tm_lt tc
  obtain ⟨fx, kx, tx⟩ := he (p + 2) (by omega) (by omega)
  have dd := dp_off (o := k' + 1) db
  rw [show k' + 1 - (k' + 1) = 0 by omega] at dd
  refine ⟨m, _, _, _, _, tb, db, dc, tm_one tx tb, l1, l2, fun q q1 q2 q3 => ?_⟩
  have := (dp_one d1 dd).2 q q1 q2
  exact h3 q q1 q2 (by rw [this]; exact q3)
theorem bet_rs {g D q : Int → Int} {u : Int} {ne : Nat} : ∀ {n : Nat} {x : Int}, (∀ i, x ≤ i → i < x + n → g i ≠ 10 + D i ∧ 0 ≤ D i) → bet g D q u ne n x = rg (rsI g D (-1)) n x := by
  intro n
  induction n with
  | zero => intro x _; rfl
  | succ n ih =>
    intro x h
    show bpc g D q u ne x ++ bet g D q u ne n (x + 1) = rsI g D (-1) x :: rg (rsI g D (-1)) n (x + 1)
    rw [ih (fun i a b => h i (by omega) (by omega))]
    obtain ⟨h1, h2⟩ := h x (by omega) (by omega)
    by_cases hh : D x < g x - 10
    · rw [bpc_2 hh, ← rsI_y (by omega) (by omega)]; rfl
    · rw [bpc_3 (by omega), ← rsI_n (by omega)]; rfl
set_option maxHeartbeats 4000000 in
set_option maxRecDepth 100000 in
theorem C_putTurned {d n : Nat} {kd pl : Nat → Nat} {s : Nat → Int} {a : Nat → Int → Int} {c : Nat → cdt} {M : List va_E} {Q : Option Value → List va_E → Nat → Nat → Prop} {j : Nat} {p e w kk : Int} {y : cdt} {f f0 : Nat} (hW : wf n kd pl) (hj : j < 38 ∧ al n kd pl (60 + 2 * j)) (hj1 : j ≠ 1) (hy : c j = y) (hok : okx (rm j) y) (hg : ∀ q, 0 ≤ q → q < y.1 → 0 ≤ y.2.2 q ∧ y.2.2 q ≤ 100000) (hp : 0 ≤ p) (he2 : e ≤ y.1) (tp : tm y.2.2 f kk p e) (hd : dp y.2.2 (a 2) f0 0 p e) (he : en y.2.2 (a 1) p e) (hr : rdx y.2.2 p = 1) (hw : w ≠ 3) (hl : md (c 1) (rm 1) []) (k : ∀ z b, bec y.2.2 w p e b → md z (rm 1) b → Q none (ch n kd pl s a (updC c 1 z) M) 0 0) : pm_E none (d + 4) pm_mm84 0 [(0, .ref (pl 15)), (1, .ref (pl (60 + 2 * j))), (2, .int (iI p)), (3, .int (iI e))] [] (ch n kd pl s a c M) 0 0 Q := by
  subst hy
  have rb := rm_b j
  obtain ⟨o1, o2, o3, o4⟩ := id hok
  have lp := tm_lt tp
  have rc := rul_c (c j) p
  have rn : rul (c j) p ≠ -1 := (rul_rdx tp hp he2).mpr hr
  have R1 : rul (c j) p = 1 → (c j).2.2 p = 0 ∧ (c j).2.2 (p + 1) = 1 := fun z => ⟨atI_c (by omega) (by omega), atI_c (by omega) (by omega)⟩
  have R4 : rul (c j) p = 4 → (c j).2.2 p = 0 ∧ (c j).2.2 (p + 1) = 4 := fun z => ⟨atI_c (by omega) (by omega), atI_c (by omega) (by omega)⟩
  have R3 : rul (c j) p = 3 → (c j).2.2 p = 0 ∧ (c j).2.2 (p + 1) = 0 ∧ (c j).2.2 (p + 2) = 3 := fun z => ⟨atI_c (by omega) (by omega), atI_c (by omega) (by omega), atI_c (by omega) (by omega)⟩
  have R2 : rul (c j) p = 2 → (c j).2.2 p = 0 ∧ (c j).2.2 (p + 1) = 0 ∧ (c j).2.2 (p + 2) = 0 ∧ (c j).2.2 (p + 3) = 2 := fun z => ⟨atI_c (by omega) (by omega), atI_c (by omega) (by omega), atI_c (by omega) (by omega), atI_c (by omega) (by omega)⟩
  refine pm_e_sim pm_a84_0 rfl ?_
  show pm_E _ _ _ 1 [(0, .ref (pl 15)), (1, .ref (pl (60 + 2 * j))), (2, .int (iI p)), (3, .int (iI e))] [.ref (pl (60 + 2 * j))] _ _ _ _
  refine pm_e_sim pm_a84_1 rfl ?_
  show pm_E _ _ _ 2 [(0, .ref (pl 15)), (1, .ref (pl (60 + 2 * j))), (2, .int (iI p)), (3, .int (iI e))] [.int (iI p), .ref (pl (60 + 2 * j))] _ _ _ _
  refine pm_e_call (T2 := pm_mm68) pm_a84_2 rfl rfl rfl rfl rfl rfl rfl rfl rfl ?_
  show pm_E none _ _ 0 [(0, .ref (pl (60 + 2 * j))), (1, .int (iI p))] [] _ _ _ _
  refine C_ruleAt hW hj rfl hok ⟨by omega, by omega⟩ ?_
  show pm_E _ _ _ 5 [(0, .ref (pl 15)), (1, .ref (pl (60 + 2 * j))), (2, .int (iI p)), (3, .int (iI e))] [.int (iI (rul (c j) p))] _ _ _ _
  by_cases h_1 : rul (c j) p = 1
  · skip
    refine pm_e_top (y := iI 1) (congrArg iI h_1) ?_
    refine pm_e_tsi (t := 36) pm_a84_5 rfl rfl ?_
    show pm_E _ _ _ 36 [(0, .ref (pl 15)), (1, .ref (pl (60 + 2 * j))), (2, .int (iI p)), (3, .int (iI e))] [] _ _ _ _
    refine pm_e_sim pm_a84_36 rfl ?_
    show pm_E _ _ _ 37 [(0, .ref (pl 15)), (1, .ref (pl (60 + 2 * j))), (2, .int (iI p)), (3, .int (iI e))] [.ref (pl 15)] _ _ _ _
    refine pm_e_sim pm_a84_37 rfl ?_
    show pm_E _ _ _ 38 [(0, .ref (pl 15)), (1, .ref (pl (60 + 2 * j))), (2, .int (iI p)), (3, .int (iI e))] [.ref (pl (60 + 2 * j)), .ref (pl 15)] _ _ _ _
    refine pm_e_sim pm_a84_38 rfl ?_
    show pm_E _ _ _ 39 [(0, .ref (pl 15)), (1, .ref (pl (60 + 2 * j))), (2, .int (iI p)), (3, .int (iI e))] [.int (iI p), .ref (pl (60 + 2 * j)), .ref (pl 15)] _ _ _ _
    refine pm_e_sim pm_a84_39 rfl ?_
    refine pm_e_top (y := iI 2) (by decide +kernel) ?_
    show pm_E _ _ _ 40 [(0, .ref (pl 15)), (1, .ref (pl (60 + 2 * j))), (2, .int (iI p)), (3, .int (iI e))] [.int (iI 2), .int (iI p), .ref (pl (60 + 2 * j)), .ref (pl 15)] _ _ _ _
    refine pm_e_sim pm_a84_40 rfl ?_
    refine pm_e_top (y := iI (p + 2)) (iI_add _ _) ?_
    show pm_E _ _ _ 41 [(0, .ref (pl 15)), (1, .ref (pl (60 + 2 * j))), (2, .int (iI p)), (3, .int (iI e))] [.int (iI (p + 2)), .ref (pl (60 + 2 * j)), .ref (pl 15)] _ _ _ _
    refine pm_e_sim pm_a84_41 rfl ?_
    show pm_E _ _ _ 42 [(0, .ref (pl 15)), (1, .ref (pl (60 + 2 * j))), (2, .int (iI p)), (3, .int (iI e))] [.ref (pl 15), .int (iI (p + 2)), .ref (pl (60 + 2 * j)), .ref (pl 15)] _ _ _ _
    refine pm_i_get pm_a84_42 rfl (cg_15 hW) rfl ?_
    show pm_E _ _ _ 45 [(0, .ref (pl 15)), (1, .ref (pl (60 + 2 * j))), (2, .int (iI p)), (3, .int (iI e))] [.ref (pl 6), .int (iI (p + 2)), .ref (pl (60 + 2 * j)), .ref (pl 15)] _ _ _ _
    refine pm_e_sim pm_a84_45 rfl ?_
    show pm_E _ _ _ 46 [(0, .ref (pl 15)), (1, .ref (pl (60 + 2 * j))), (2, .int (iI p)), (3, .int (iI e))] [.int (iI p), .ref (pl 6), .int (iI (p + 2)), .ref (pl (60 + 2 * j)), .ref (pl 15)] _ _ _ _
    refine pm_e_sim pm_a84_46 rfl ?_
    refine pm_e_top (y := iI 2) (by decide +kernel) ?_
    show pm_E _ _ _ 47 [(0, .ref (pl 15)), (1, .ref (pl (60 + 2 * j))), (2, .int (iI p)), (3, .int (iI e))] [.int (iI 2), .int (iI p), .ref (pl 6), .int (iI (p + 2)), .ref (pl (60 + 2 * j)), .ref (pl 15)] _ _ _ _
    refine pm_e_sim pm_a84_47 rfl ?_
    refine pm_e_top (y := iI (p + 2)) (iI_add _ _) ?_
    show pm_E _ _ _ 48 [(0, .ref (pl 15)), (1, .ref (pl (60 + 2 * j))), (2, .int (iI p)), (3, .int (iI e))] [.int (iI (p + 2)), .ref (pl 6), .int (iI (p + 2)), .ref (pl (60 + 2 * j)), .ref (pl 15)] _ _ _ _
    refine pm_i_callv (k := (pl 6)) (T2 := pm_mm72) pm_a84_48 rfl rfl rfl (cg_6 hW) ⟨Nat.le_of_ble_eq_true rfl, Nat.le_of_ble_eq_true rfl, rfl, by decide +kernel⟩ ?_
    show pm_E none _ _ 0 [(0, .ref (pl 6)), (1, .int (iI (p + 2)))] [] _ _ _ _
    obtain ⟨u, fa, ka, fb, kb, fc, fd, t1, t2, d1, d2, hE, lu1, lu2⟩ := beta_parts tp hd he (R1 (by omega)).1 (R1 (by omega)).2
    refine C_endOf hW ⟨by omega, by omega⟩ ?_
    rw [shE_y (by omega) (by omega), hE]
    show pm_E _ _ _ 51 [(0, .ref (pl 15)), (1, .ref (pl (60 + 2 * j))), (2, .int (iI p)), (3, .int (iI e))] [.int (iI u), .int (iI (p + 2)), .ref (pl (60 + 2 * j)), .ref (pl 15)] _ _ _ _
    refine pm_e_sim pm_a84_51 rfl ?_
    show pm_E _ _ _ 52 [(0, .ref (pl 15)), (1, .ref (pl (60 + 2 * j))), (2, .int (iI p)), (3, .int (iI e))] [.int (iI e), .int (iI u), .int (iI (p + 2)), .ref (pl (60 + 2 * j)), .ref (pl 15)] _ _ _ _
    refine pm_i_callv (k := (pl 15)) (T2 := pm_mm82) pm_a84_52 rfl rfl rfl (cg_15 hW) ⟨Nat.le_of_ble_eq_true rfl, Nat.le_of_ble_eq_true rfl, rfl, by decide +kernel⟩ ?_
    show pm_E none _ _ 0 [(0, .ref (pl 15)), (1, .ref (pl (60 + 2 * j))), (2, .int (iI (p + 2))), (3, .int (iI u)), (4, .int (iI e))] [] _ _ _ _
    refine C_putBody hW hj hj1 rfl hok hg (by omega) (by omega) (by omega) (by omega) (fun q a b => ?_) (fun q a b => ?_) hl (fun z hz => ?_)
    · obtain ⟨_, _, _, _, _, _⟩ := dp_sub d1 q a b
      omega
    · obtain ⟨_, _, _, _, _, _⟩ := dp_sub d2 q a b
      omega
    show pm_E _ _ _ 55 [(0, .ref (pl 15)), (1, .ref (pl (60 + 2 * j))), (2, .int (iI p)), (3, .int (iI e))] [] _ _ _ _
    refine pm_e_goto pm_a84_55 rfl ?_
    show pm_E _ _ _ 106 [(0, .ref (pl 15)), (1, .ref (pl (60 + 2 * j))), (2, .int (iI p)), (3, .int (iI e))] [] _ _ _ _
    refine pm_e_ret pm_a84_106 rfl rfl rfl rfl rfl rfl rfl rfl ?_
    exact k z _ (Or.inr (Or.inl ⟨hw, (R1 (by omega)).2, u, (u - (p + 2)).toNat, ka, (e - u).toNat, kb, fun q => a 2 q - 1, a 2, tm_small t1 _ (Nat.le_refl _), tm_small t2 _ (Nat.le_refl _), dp_small (f := fc) (dp_off (o := 1) d1) _ (Nat.le_refl _), dp_small d2 _ (Nat.le_refl _), rfl⟩)) hz
  by_cases h_2 : rul (c j) p = 2
  · skip
    refine pm_e_top (y := iI 2) (congrArg iI h_2) ?_
    refine pm_e_tsi (t := 97) pm_a84_5 rfl rfl ?_
    show pm_E _ _ _ 97 [(0, .ref (pl 15)), (1, .ref (pl (60 + 2 * j))), (2, .int (iI p)), (3, .int (iI e))] [] _ _ _ _
    refine pm_e_sim pm_a84_97 rfl ?_
    show pm_E _ _ _ 98 [(0, .ref (pl 15)), (1, .ref (pl (60 + 2 * j))), (2, .int (iI p)), (3, .int (iI e))] [.ref (pl 15)] _ _ _ _
    refine pm_e_sim pm_a84_98 rfl ?_
    show pm_E _ _ _ 99 [(0, .ref (pl 15)), (1, .ref (pl (60 + 2 * j))), (2, .int (iI p)), (3, .int (iI e))] [.ref (pl (60 + 2 * j)), .ref (pl 15)] _ _ _ _
    refine pm_e_sim pm_a84_99 rfl ?_
    show pm_E _ _ _ 100 [(0, .ref (pl 15)), (1, .ref (pl (60 + 2 * j))), (2, .int (iI p)), (3, .int (iI e))] [.int (iI p), .ref (pl (60 + 2 * j)), .ref (pl 15)] _ _ _ _
    refine pm_e_sim pm_a84_100 rfl ?_
    refine pm_e_top (y := iI 4) (by decide +kernel) ?_
    show pm_E _ _ _ 101 [(0, .ref (pl 15)), (1, .ref (pl (60 + 2 * j))), (2, .int (iI p)), (3, .int (iI e))] [.int (iI 4), .int (iI p), .ref (pl (60 + 2 * j)), .ref (pl 15)] _ _ _ _
    refine pm_e_sim pm_a84_101 rfl ?_
    refine pm_e_top (y := iI (p + 4)) (iI_add _ _) ?_
    show pm_E _ _ _ 102 [(0, .ref (pl 15)), (1, .ref (pl (60 + 2 * j))), (2, .int (iI p)), (3, .int (iI e))] [.int (iI (p + 4)), .ref (pl (60 + 2 * j)), .ref (pl 15)] _ _ _ _
    refine pm_e_sim pm_a84_102 rfl ?_
    show pm_E _ _ _ 103 [(0, .ref (pl 15)), (1, .ref (pl (60 + 2 * j))), (2, .int (iI p)), (3, .int (iI e))] [.int (iI e), .int (iI (p + 4)), .ref (pl (60 + 2 * j)), .ref (pl 15)] _ _ _ _
    refine pm_i_callv (k := (pl 15)) (T2 := pm_mm85) pm_a84_103 rfl rfl rfl (cg_15 hW) ⟨Nat.le_of_ble_eq_true rfl, Nat.le_of_ble_eq_true rfl, rfl, by decide +kernel⟩ ?_
    show pm_E none _ _ 0 [(0, .ref (pl 15)), (1, .ref (pl (60 + 2 * j))), (2, .int (iI (p + 4))), (3, .int (iI e))] [] _ _ _ _
    obtain ⟨fa, b, cc, t1, t2, t3⟩ := red_S tp (R2 (by omega)).1 (R2 (by omega)).2.1 (R2 (by omega)).2.2.1 (R2 (by omega)).2.2.2
    have lu1 := tm_lt t1
    have lu2 := tm_lt t2
    have lu3 := tm_lt t3
    obtain ⟨fx, kx, tx⟩ := he (p + 4) (by omega) (by omega)
    obtain ⟨fy, ky, ty⟩ := he b (by omega) (by omega)
    refine C_putShared hW hj hj1 rfl hok hg (by omega) lu1 lu2 lu3 (by omega) (tm_one tx t1) (tm_one ty t2) hl (fun z hz => ?_)
    show pm_E _ _ _ 106 [(0, .ref (pl 15)), (1, .ref (pl (60 + 2 * j))), (2, .int (iI p)), (3, .int (iI e))] [] _ _ _ _
    refine pm_e_ret pm_a84_106 rfl rfl rfl rfl rfl rfl rfl rfl ?_
    refine k z _ (Or.inr (Or.inr (Or.inr (Or.inr ⟨hw, (R2 (by omega)).2.1, (R2 (by omega)).2.2.1, (R2 (by omega)).2.2.2, b, cc, fa, _, t1, t2, t3, rfl⟩)))) ?_
    rw [rg_cut (g := (c j).2.2) (p := b) (m := cc) (e := e) (by omega) (by omega), ← List.append_assoc]
    exact hz
  by_cases h_3 : rul (c j) p = 3
  · skip
    refine pm_e_top (y := iI 3) (congrArg iI h_3) ?_
    refine pm_e_tsi (t := 73) pm_a84_5 rfl rfl ?_
    show pm_E _ _ _ 73 [(0, .ref (pl 15)), (1, .ref (pl (60 + 2 * j))), (2, .int (iI p)), (3, .int (iI e))] [] _ _ _ _
    refine pm_e_sim pm_a84_73 rfl ?_
    show pm_E _ _ _ 74 [(0, .ref (pl 15)), (1, .ref (pl (60 + 2 * j))), (2, .int (iI p)), (3, .int (iI e))] [.ref (pl 15)] _ _ _ _
    refine pm_i_get pm_a84_74 rfl (cg_15 hW) rfl ?_
    show pm_E _ _ _ 77 [(0, .ref (pl 15)), (1, .ref (pl (60 + 2 * j))), (2, .int (iI p)), (3, .int (iI e))] [.ref (pl (60 + 2 * 1))] _ _ _ _
    refine pm_e_sim pm_a84_77 rfl ?_
    show pm_E _ _ _ 78 [(0, .ref (pl 15)), (1, .ref (pl (60 + 2 * j))), (2, .int (iI p)), (3, .int (iI e))] [.ref (pl (60 + 2 * j)), .ref (pl (60 + 2 * 1))] _ _ _ _
    refine pm_e_sim pm_a84_78 rfl ?_
    show pm_E _ _ _ 79 [(0, .ref (pl 15)), (1, .ref (pl (60 + 2 * j))), (2, .int (iI p)), (3, .int (iI e))] [.int (iI p), .ref (pl (60 + 2 * j)), .ref (pl (60 + 2 * 1))] _ _ _ _
    refine pm_e_sim pm_a84_79 rfl ?_
    refine pm_e_top (y := iI 3) (by decide +kernel) ?_
    show pm_E _ _ _ 80 [(0, .ref (pl 15)), (1, .ref (pl (60 + 2 * j))), (2, .int (iI p)), (3, .int (iI e))] [.int (iI 3), .int (iI p), .ref (pl (60 + 2 * j)), .ref (pl (60 + 2 * 1))] _ _ _ _
    refine pm_e_sim pm_a84_80 rfl ?_
    refine pm_e_top (y := iI (p + 3)) (iI_add _ _) ?_
    show pm_E _ _ _ 81 [(0, .ref (pl 15)), (1, .ref (pl (60 + 2 * j))), (2, .int (iI p)), (3, .int (iI e))] [.int (iI (p + 3)), .ref (pl (60 + 2 * j)), .ref (pl (60 + 2 * 1))] _ _ _ _
    refine pm_e_sim pm_a84_81 rfl ?_
    show pm_E _ _ _ 82 [(0, .ref (pl 15)), (1, .ref (pl (60 + 2 * j))), (2, .int (iI p)), (3, .int (iI e))] [.ref (pl 15), .int (iI (p + 3)), .ref (pl (60 + 2 * j)), .ref (pl (60 + 2 * 1))] _ _ _ _
    refine pm_i_get pm_a84_82 rfl (cg_15 hW) rfl ?_
    show pm_E _ _ _ 85 [(0, .ref (pl 15)), (1, .ref (pl (60 + 2 * j))), (2, .int (iI p)), (3, .int (iI e))] [.ref (pl 6), .int (iI (p + 3)), .ref (pl (60 + 2 * j)), .ref (pl (60 + 2 * 1))] _ _ _ _
    refine pm_e_sim pm_a84_85 rfl ?_
    show pm_E _ _ _ 86 [(0, .ref (pl 15)), (1, .ref (pl (60 + 2 * j))), (2, .int (iI p)), (3, .int (iI e))] [.int (iI p), .ref (pl 6), .int (iI (p + 3)), .ref (pl (60 + 2 * j)), .ref (pl (60 + 2 * 1))] _ _ _ _
    refine pm_e_sim pm_a84_86 rfl ?_
    refine pm_e_top (y := iI 3) (by decide +kernel) ?_
    show pm_E _ _ _ 87 [(0, .ref (pl 15)), (1, .ref (pl (60 + 2 * j))), (2, .int (iI p)), (3, .int (iI e))] [.int (iI 3), .int (iI p), .ref (pl 6), .int (iI (p + 3)), .ref (pl (60 + 2 * j)), .ref (pl (60 + 2 * 1))] _ _ _ _
    refine pm_e_sim pm_a84_87 rfl ?_
    refine pm_e_top (y := iI (p + 3)) (iI_add _ _) ?_
    show pm_E _ _ _ 88 [(0, .ref (pl 15)), (1, .ref (pl (60 + 2 * j))), (2, .int (iI p)), (3, .int (iI e))] [.int (iI (p + 3)), .ref (pl 6), .int (iI (p + 3)), .ref (pl (60 + 2 * j)), .ref (pl (60 + 2 * 1))] _ _ _ _
    refine pm_i_callv (k := (pl 6)) (T2 := pm_mm72) pm_a84_88 rfl rfl rfl (cg_6 hW) ⟨Nat.le_of_ble_eq_true rfl, Nat.le_of_ble_eq_true rfl, rfl, by decide +kernel⟩ ?_
    show pm_E none _ _ 0 [(0, .ref (pl 6)), (1, .int (iI (p + 3)))] [] _ _ _ _
    obtain ⟨fa, m, t1, t2⟩ := red_K tp (R3 (by omega)).1 (R3 (by omega)).2.1 (R3 (by omega)).2.2
    have lu1 := tm_lt t1
    have lu2 := tm_lt t2
    obtain ⟨fx, kx, tx⟩ := he (p + 3) (by omega) (by omega)
    have hE := tm_one tx t1
    refine C_endOf hW ⟨by omega, by omega⟩ ?_
    rw [shE_y (by omega) (by omega), hE]
    show pm_E _ _ _ 91 [(0, .ref (pl 15)), (1, .ref (pl (60 + 2 * j))), (2, .int (iI p)), (3, .int (iI e))] [.int (iI m), .int (iI (p + 3)), .ref (pl (60 + 2 * j)), .ref (pl (60 + 2 * 1))] _ _ _ _
    refine pm_i_callv (k := (pl (60 + 2 * 1))) (T2 := pm_mm59) pm_a84_91 rfl rfl rfl (cg_o (cj1 hW)) ⟨Nat.le_of_ble_eq_true rfl, Nat.le_of_ble_eq_true rfl, rfl, by decide +kernel⟩ ?_
    show pm_E none _ _ 0 [(0, .ref (pl (60 + 2 * 1))), (1, .ref (pl (60 + 2 * j))), (2, .int (iI (p + 3))), (3, .int (iI m))] [] _ _ _ _
    refine C_putPart hW (cj1 hW) hj rfl hok hl (by omega) (by omega) (by omega) (fun z hz => ?_)
    show pm_E _ _ _ 94 [(0, .ref (pl 15)), (1, .ref (pl (60 + 2 * j))), (2, .int (iI p)), (3, .int (iI e))] [] _ _ _ _
    refine pm_e_goto pm_a84_94 rfl ?_
    show pm_E _ _ _ 106 [(0, .ref (pl 15)), (1, .ref (pl (60 + 2 * j))), (2, .int (iI p)), (3, .int (iI e))] [] _ _ _ _
    refine pm_e_ret pm_a84_106 rfl rfl rfl rfl rfl rfl rfl rfl ?_
    exact k z _ (Or.inr (Or.inr (Or.inr (Or.inl ⟨hw, (R3 (by omega)).2.1, (R3 (by omega)).2.2, m, fa, _, t1, rfl⟩)))) hz
  by_cases h_4 : rul (c j) p = 4
  · skip
    refine pm_e_top (y := iI 4) (congrArg iI h_4) ?_
    refine pm_e_tsi (t := 58) pm_a84_5 rfl rfl ?_
    show pm_E _ _ _ 58 [(0, .ref (pl 15)), (1, .ref (pl (60 + 2 * j))), (2, .int (iI p)), (3, .int (iI e))] [] _ _ _ _
    refine pm_e_sim pm_a84_58 rfl ?_
    show pm_E _ _ _ 59 [(0, .ref (pl 15)), (1, .ref (pl (60 + 2 * j))), (2, .int (iI p)), (3, .int (iI e))] [.ref (pl 15)] _ _ _ _
    refine pm_i_get pm_a84_59 rfl (cg_15 hW) rfl ?_
    show pm_E _ _ _ 62 [(0, .ref (pl 15)), (1, .ref (pl (60 + 2 * j))), (2, .int (iI p)), (3, .int (iI e))] [.ref (pl (60 + 2 * 1))] _ _ _ _
    refine pm_e_sim pm_a84_62 rfl ?_
    show pm_E _ _ _ 63 [(0, .ref (pl 15)), (1, .ref (pl (60 + 2 * j))), (2, .int (iI p)), (3, .int (iI e))] [.ref (pl (60 + 2 * j)), .ref (pl (60 + 2 * 1))] _ _ _ _
    refine pm_e_sim pm_a84_63 rfl ?_
    show pm_E _ _ _ 64 [(0, .ref (pl 15)), (1, .ref (pl (60 + 2 * j))), (2, .int (iI p)), (3, .int (iI e))] [.int (iI p), .ref (pl (60 + 2 * j)), .ref (pl (60 + 2 * 1))] _ _ _ _
    refine pm_e_sim pm_a84_64 rfl ?_
    refine pm_e_top (y := iI 2) (by decide +kernel) ?_
    show pm_E _ _ _ 65 [(0, .ref (pl 15)), (1, .ref (pl (60 + 2 * j))), (2, .int (iI p)), (3, .int (iI e))] [.int (iI 2), .int (iI p), .ref (pl (60 + 2 * j)), .ref (pl (60 + 2 * 1))] _ _ _ _
    refine pm_e_sim pm_a84_65 rfl ?_
    refine pm_e_top (y := iI (p + 2)) (iI_add _ _) ?_
    show pm_E _ _ _ 66 [(0, .ref (pl 15)), (1, .ref (pl (60 + 2 * j))), (2, .int (iI p)), (3, .int (iI e))] [.int (iI (p + 2)), .ref (pl (60 + 2 * j)), .ref (pl (60 + 2 * 1))] _ _ _ _
    refine pm_e_sim pm_a84_66 rfl ?_
    show pm_E _ _ _ 67 [(0, .ref (pl 15)), (1, .ref (pl (60 + 2 * j))), (2, .int (iI p)), (3, .int (iI e))] [.int (iI e), .int (iI (p + 2)), .ref (pl (60 + 2 * j)), .ref (pl (60 + 2 * 1))] _ _ _ _
    refine pm_i_callv (k := (pl (60 + 2 * 1))) (T2 := pm_mm59) pm_a84_67 rfl rfl rfl (cg_o (cj1 hW)) ⟨Nat.le_of_ble_eq_true rfl, Nat.le_of_ble_eq_true rfl, rfl, by decide +kernel⟩ ?_
    show pm_E none _ _ 0 [(0, .ref (pl (60 + 2 * 1))), (1, .ref (pl (60 + 2 * j))), (2, .int (iI (p + 2))), (3, .int (iI e))] [] _ _ _ _
    obtain ⟨fa, t1⟩ := red_I tp (R4 (by omega)).1 (R4 (by omega)).2
    have lu1 := tm_lt t1
    refine C_putPart hW (cj1 hW) hj rfl hok hl (by omega) (by omega) (by omega) (fun z hz => ?_)
    show pm_E _ _ _ 70 [(0, .ref (pl 15)), (1, .ref (pl (60 + 2 * j))), (2, .int (iI p)), (3, .int (iI e))] [] _ _ _ _
    refine pm_e_goto pm_a84_70 rfl ?_
    show pm_E _ _ _ 106 [(0, .ref (pl 15)), (1, .ref (pl (60 + 2 * j))), (2, .int (iI p)), (3, .int (iI e))] [] _ _ _ _
    refine pm_e_ret pm_a84_106 rfl rfl rfl rfl rfl rfl rfl rfl ?_
    exact k z _ (Or.inr (Or.inr (Or.inl ⟨hw, (R4 (by omega)).2, rfl⟩))) hz
  exfalso; omega
set_option maxHeartbeats 4000000 in
set_option maxRecDepth 100000 in
theorem C_turn {d n : Nat} {kd pl : Nat → Nat} {s : Nat → Int} {a : Nat → Int → Int} {c : Nat → cdt} {M : List va_E} {Q : Option Value → List va_E → Nat → Nat → Prop} {j : Nat} {w : Int} {l : List Int} {f : Nat} (hW : wf n kd pl) (hj : j < 38 ∧ al n kd pl (60 + 2 * j)) (hj1 : j ≠ 1) (hj2 : j ≠ 2) (hl : md (c j) (rm j) l) (hlen : l.length ≤ 500) (ht : tL f 0 l) (ho1 : okx (rm 1) (c 1)) (hin : ∀ q, in32 (a 1 q)) (hw : 0 ≤ w ∧ w ≤ 3) (k : ∀ a' c' r l', shM a a' → (∀ i, i ≠ 1 → i ≠ j → c' i = c i) → okx (rm 1) (c' 1) → md (c' j) (rm j) l' → l'.length ≤ 500 → stp w l r l' → Q (some (.int (iI r))) (ch n kd pl s a' c' M) 0 0) : pm_E none (d + 6) pm_mm65 0 [(0, .ref (pl 15)), (1, .ref (pl (60 + 2 * j))), (2, .int (iI w))] [] (ch n kd pl s a c M) 0 0 Q := by
  have rb := rm_b j
  have hrj : rm j = 500 := if_neg hj2
  have hok := hl.1
  obtain ⟨o1, o2, o3, o4⟩ := id hok
  obtain ⟨hov, hz, hrg⟩ : (c j).2.1 = 0 ∧ (c j).1 = l.length ∧ rg (c j).2.2 l.length 0 = l := by rcases hl.2 with ⟨_, h1, h2, h3⟩ | ⟨h, _⟩; exact ⟨h1, h2, h3⟩; omega
  have ht2 : tm (c j).2.2 (l.length) 0 0 (c j).1 := by rw [hz]; exact tm_small (tL_tm0 ht hrg) _ (by omega)
  have hg : ∀ q, 0 ≤ q → q < (c j).1 → 0 ≤ (c j).2.2 q ∧ (c j).2.2 q ≤ 100000 := fun q a b => by
    have := tm_in (by omega) ht2 q a b
    omega
  refine pm_e_sim pm_a65_0 rfl ?_
  show pm_E _ _ _ 1 [(0, .ref (pl 15)), (1, .ref (pl (60 + 2 * j))), (2, .int (iI w))] [.ref (pl 15)] _ _ _ _
  refine pm_e_sim pm_a65_1 rfl ?_
  show pm_E _ _ _ 2 [(0, .ref (pl 15)), (1, .ref (pl (60 + 2 * j))), (2, .int (iI w))] [.ref (pl (60 + 2 * j)), .ref (pl 15)] _ _ _ _
  refine pm_e_sim pm_a65_2 rfl ?_
  show pm_E _ _ _ 3 [(0, .ref (pl 15)), (1, .ref (pl (60 + 2 * j))), (2, .int (iI w))] [.int (iI w), .ref (pl (60 + 2 * j)), .ref (pl 15)] _ _ _ _
  refine pm_i_callv (k := (pl 15)) (T2 := pm_mm66) pm_a65_3 rfl rfl rfl (cg_15 hW) ⟨Nat.le_of_ble_eq_true rfl, Nat.le_of_ble_eq_true rfl, rfl, by decide +kernel⟩ ?_
  show pm_E none _ _ 0 [(0, .ref (pl 15)), (1, .ref (pl (60 + 2 * j))), (2, .int (iI w))] [] _ _ _ _
  refine C_place hW hj rfl hok hin ht2 hw (fun a1 r hm hn => ?_)
  have hrb : -4 ≤ r ∧ r < (c j).1 := by rcases hn with ⟨z, _⟩ | ⟨z, y, _⟩ <;> omega
  show pm_E _ _ _ 6 [(0, .ref (pl 15)), (1, .ref (pl (60 + 2 * j))), (2, .int (iI w))] [.int (iI r)] _ _ _ _
  refine pm_e_sim pm_a65_6 rfl ?_
  show pm_E _ _ _ 7 [(0, .ref (pl 15)), (1, .ref (pl (60 + 2 * j))), (2, .int (iI w)), (3, .int (iI r))] [] _ _ _ _
  refine pm_e_sim pm_a65_7 rfl ?_
  show pm_E _ _ _ 8 [(0, .ref (pl 15)), (1, .ref (pl (60 + 2 * j))), (2, .int (iI w)), (3, .int (iI r))] [.int (iI r)] _ _ _ _
  refine pm_i_ge (t := 13) pm_a65_8 rfl ⟨by omega, by omega⟩ (fun h_1 => ?_) (fun h_1 => ?_)
  · skip
    show pm_E _ _ _ 13 [(0, .ref (pl 15)), (1, .ref (pl (60 + 2 * j))), (2, .int (iI w)), (3, .int (iI r))] [] _ _ _ _
    refine pm_e_sim pm_a65_13 rfl ?_
    show pm_E _ _ _ 14 [(0, .ref (pl 15)), (1, .ref (pl (60 + 2 * j))), (2, .int (iI w)), (3, .int (iI r))] [.ref (pl (60 + 2 * j))] _ _ _ _
    refine pm_e_sim pm_a65_14 rfl ?_
    show pm_E _ _ _ 15 [(0, .ref (pl 15)), (1, .ref (pl (60 + 2 * j))), (2, .int (iI w)), (3, .int (iI r))] [.int (iI r), .ref (pl (60 + 2 * j))] _ _ _ _
    refine pm_i_callv (k := (pl (60 + 2 * j))) (T2 := pm_mm81) pm_a65_15 rfl rfl rfl (cg_o hj) ⟨Nat.le_of_ble_eq_true rfl, Nat.le_of_ble_eq_true rfl, rfl, by decide +kernel⟩ ?_
    show pm_E none _ _ 0 [(0, .ref (pl (60 + 2 * j))), (1, .int (iI r))] [] _ _ _ _
    obtain ⟨hp, hcn⟩ := nrx_pos hn (by omega)
    obtain ⟨f1, k1, e, tp, he, hk1, hk2, _⟩ := tm_sub ht2 r (by omega) hp
    have lp := tm_lt tp
    refine C_endFrom hW hj rfl hok tp (by omega) he ?_
    show pm_E _ _ _ 18 [(0, .ref (pl 15)), (1, .ref (pl (60 + 2 * j))), (2, .int (iI w)), (3, .int (iI r))] [.int (iI e)] _ _ _ _
    refine pm_e_sim pm_a65_18 rfl ?_
    show pm_E _ _ _ 20 [(0, .ref (pl 15)), (1, .ref (pl (60 + 2 * j))), (2, .int (iI w)), (3, .int (iI r)), (4, .int (iI e))] [] _ _ _ _
    refine pm_e_sim pm_a65_20 rfl ?_
    show pm_E _ _ _ 21 [(0, .ref (pl 15)), (1, .ref (pl (60 + 2 * j))), (2, .int (iI w)), (3, .int (iI r)), (4, .int (iI e))] [.ref (pl 15)] _ _ _ _
    refine pm_i_get pm_a65_21 rfl (cg_15 hW) rfl ?_
    show pm_E _ _ _ 24 [(0, .ref (pl 15)), (1, .ref (pl (60 + 2 * j))), (2, .int (iI w)), (3, .int (iI r)), (4, .int (iI e))] [.ref (pl 6)] _ _ _ _
    refine pm_e_sim pm_a65_24 rfl ?_
    show pm_E _ _ _ 25 [(0, .ref (pl 15)), (1, .ref (pl (60 + 2 * j))), (2, .int (iI w)), (3, .int (iI r)), (4, .int (iI e))] [.ref (pl (60 + 2 * j)), .ref (pl 6)] _ _ _ _
    refine pm_e_sim pm_a65_25 rfl ?_
    show pm_E _ _ _ 26 [(0, .ref (pl 15)), (1, .ref (pl (60 + 2 * j))), (2, .int (iI w)), (3, .int (iI r)), (4, .int (iI e))] [.int (iI r), .ref (pl (60 + 2 * j)), .ref (pl 6)] _ _ _ _
    refine pm_e_sim pm_a65_26 rfl ?_
    show pm_E _ _ _ 28 [(0, .ref (pl 15)), (1, .ref (pl (60 + 2 * j))), (2, .int (iI w)), (3, .int (iI r)), (4, .int (iI e))] [.int (iI e), .int (iI r), .ref (pl (60 + 2 * j)), .ref (pl 6)] _ _ _ _
    refine pm_i_callv (k := (pl 6)) (T2 := pm_mm70) pm_a65_28 rfl rfl rfl (cg_6 hW) ⟨Nat.le_of_ble_eq_true rfl, Nat.le_of_ble_eq_true rfl, rfl, by decide +kernel⟩ ?_
    show pm_E none _ _ 0 [(0, .ref (pl 6)), (1, .ref (pl (60 + 2 * j))), (2, .int (iI r)), (3, .int (iI e))] [] _ _ _ _
    refine C_measure hW hj rfl hok hm.2 (by omega) he tp (fun E D h1 h2 h3 => ?_)
    show pm_E _ _ _ 31 [(0, .ref (pl 15)), (1, .ref (pl (60 + 2 * j))), (2, .int (iI w)), (3, .int (iI r)), (4, .int (iI e))] [] _ _ _ _
    refine pm_e_sim pm_a65_31 rfl ?_
    show pm_E _ _ _ 32 [(0, .ref (pl 15)), (1, .ref (pl (60 + 2 * j))), (2, .int (iI w)), (3, .int (iI r)), (4, .int (iI e))] [.ref (pl 15)] _ _ _ _
    refine pm_i_get pm_a65_32 rfl (cg_15 hW) rfl ?_
    show pm_E _ _ _ 35 [(0, .ref (pl 15)), (1, .ref (pl (60 + 2 * j))), (2, .int (iI w)), (3, .int (iI r)), (4, .int (iI e))] [.ref (pl (60 + 2 * 1))] _ _ _ _
    refine pm_i_callv (k := (pl (60 + 2 * 1))) (T2 := pm_mm13) pm_a65_35 rfl rfl rfl (cg_o (cj1 hW)) ⟨Nat.le_of_ble_eq_true rfl, Nat.le_of_ble_eq_true rfl, rfl, by decide +kernel⟩ ?_
    show pm_E none _ _ 0 [(0, .ref (pl (60 + 2 * 1)))] [] _ _ _ _
    refine C_clear hW (cj1 hW) ho1 (fun z hz1 => ?_)
    show pm_E _ _ _ 38 [(0, .ref (pl 15)), (1, .ref (pl (60 + 2 * j))), (2, .int (iI w)), (3, .int (iI r)), (4, .int (iI e))] [] _ _ _ _
    refine pm_e_sim pm_a65_38 rfl ?_
    show pm_E _ _ _ 39 [(0, .ref (pl 15)), (1, .ref (pl (60 + 2 * j))), (2, .int (iI w)), (3, .int (iI r)), (4, .int (iI e))] [.int (iI w)] _ _ _ _
    refine pm_e_sim pm_a65_39 rfl ?_
    refine pm_e_top (y := iI 3) (by decide +kernel) ?_
    show pm_E _ _ _ 40 [(0, .ref (pl 15)), (1, .ref (pl (60 + 2 * j))), (2, .int (iI w)), (3, .int (iI r)), (4, .int (iI e))] [.int (iI 3), .int (iI w)] _ _ _ _
    refine pm_c_ne (t := 66) pm_a65_40 rfl ⟨by omega, by omega⟩ ⟨by omega, by omega⟩ (fun h_2 => ?_) (fun h_2 => ?_)
    · skip
      show pm_E _ _ _ 66 [(0, .ref (pl 15)), (1, .ref (pl (60 + 2 * j))), (2, .int (iI w)), (3, .int (iI r)), (4, .int (iI e))] [] _ _ _ _
      refine pm_e_sim pm_a65_66 rfl ?_
      show pm_E _ _ _ 67 [(0, .ref (pl 15)), (1, .ref (pl (60 + 2 * j))), (2, .int (iI w)), (3, .int (iI r)), (4, .int (iI e))] [.ref (pl 15)] _ _ _ _
      refine pm_e_sim pm_a65_67 rfl ?_
      show pm_E _ _ _ 68 [(0, .ref (pl 15)), (1, .ref (pl (60 + 2 * j))), (2, .int (iI w)), (3, .int (iI r)), (4, .int (iI e))] [.ref (pl (60 + 2 * j)), .ref (pl 15)] _ _ _ _
      refine pm_e_sim pm_a65_68 rfl ?_
      show pm_E _ _ _ 69 [(0, .ref (pl 15)), (1, .ref (pl (60 + 2 * j))), (2, .int (iI w)), (3, .int (iI r)), (4, .int (iI e))] [.int (iI r), .ref (pl (60 + 2 * j)), .ref (pl 15)] _ _ _ _
      refine pm_e_sim pm_a65_69 rfl ?_
      show pm_E _ _ _ 71 [(0, .ref (pl 15)), (1, .ref (pl (60 + 2 * j))), (2, .int (iI w)), (3, .int (iI r)), (4, .int (iI e))] [.int (iI e), .int (iI r), .ref (pl (60 + 2 * j)), .ref (pl 15)] _ _ _ _
      refine pm_i_callv (k := (pl 15)) (T2 := pm_mm84) pm_a65_71 rfl rfl rfl (cg_15 hW) ⟨Nat.le_of_ble_eq_true rfl, Nat.le_of_ble_eq_true rfl, rfl, by decide +kernel⟩ ?_
      show pm_E none _ _ 0 [(0, .ref (pl 15)), (1, .ref (pl (60 + 2 * j))), (2, .int (iI r)), (3, .int (iI e))] [] _ _ _ _
      have hrd : rdx (c j).2.2 r = 1 := by rcases hcn with ⟨h, _⟩ | ⟨_, h, _⟩; omega; exact h
      refine C_putTurned (a := updA (updA a1 1 E) 2 D) (w := w) hW hj hj1 (updC_n hj1) hok hg (by omega) he tp h2 h1 hrd (by omega) (by rw [updC_at]; exact hz1) (fun z2 b hb hz3 => ?_)
      rw [updC_s]
      show pm_E _ _ _ 74 [(0, .ref (pl 15)), (1, .ref (pl (60 + 2 * j))), (2, .int (iI w)), (3, .int (iI r)), (4, .int (iI e))] [] _ _ _ _
      refine pm_e_sim pm_a65_74 rfl ?_
      show pm_E _ _ _ 75 [(0, .ref (pl 15)), (1, .ref (pl (60 + 2 * j))), (2, .int (iI w)), (3, .int (iI r)), (4, .int (iI e))] [.ref (pl (60 + 2 * j))] _ _ _ _
      refine pm_e_sim pm_a65_75 rfl ?_
      show pm_E _ _ _ 76 [(0, .ref (pl 15)), (1, .ref (pl (60 + 2 * j))), (2, .int (iI w)), (3, .int (iI r)), (4, .int (iI e))] [.int (iI r), .ref (pl (60 + 2 * j))] _ _ _ _
      refine pm_e_sim pm_a65_76 rfl ?_
      show pm_E _ _ _ 78 [(0, .ref (pl 15)), (1, .ref (pl (60 + 2 * j))), (2, .int (iI w)), (3, .int (iI r)), (4, .int (iI e))] [.int (iI e), .int (iI r), .ref (pl (60 + 2 * j))] _ _ _ _
      refine pm_e_sim pm_a65_78 rfl ?_
      show pm_E _ _ _ 79 [(0, .ref (pl 15)), (1, .ref (pl (60 + 2 * j))), (2, .int (iI w)), (3, .int (iI r)), (4, .int (iI e))] [.ref (pl 15), .int (iI e), .int (iI r), .ref (pl (60 + 2 * j))] _ _ _ _
      refine pm_i_get pm_a65_79 rfl (cg_15 hW) rfl ?_
      show pm_E _ _ _ 82 [(0, .ref (pl 15)), (1, .ref (pl (60 + 2 * j))), (2, .int (iI w)), (3, .int (iI r)), (4, .int (iI e))] [.ref (pl (60 + 2 * 1)), .int (iI e), .int (iI r), .ref (pl (60 + 2 * j))] _ _ _ _
      refine pm_i_callv (k := (pl (60 + 2 * j))) (T2 := pm_mm86) pm_a65_82 rfl rfl rfl (cg_o hj) ⟨Nat.le_of_ble_eq_true rfl, Nat.le_of_ble_eq_true rfl, rfl, by decide +kernel⟩ ?_
      show pm_E none _ _ 0 [(0, .ref (pl (60 + 2 * j))), (1, .int (iI r)), (2, .int (iI e)), (3, .ref (pl (60 + 2 * 1)))] [] _ _ _ _
      refine C_replacePart (p := r) (e := e) hW hj (cj1 hW) hj1 (by rw [hrj]; exact Nat.le_refl _) updC_at (by rw [updC_n hj1]; exact hok) (by rw [updC_n hj1]; exact hov) hz3 (by omega) (by omega) (by rw [updC_n hj1]; exact he) (fun hle x hx => ?_) (fun hgt => ?_)
      · skip
        rw [updC_n hj1, hz, hrj] at hle hx
        show pm_E _ _ _ 85 [(0, .ref (pl 15)), (1, .ref (pl (60 + 2 * j))), (2, .int (iI w)), (3, .int (iI r)), (4, .int (iI e))] [.int (iI 1)] _ _ _ _
        refine pm_e_iff pm_a65_85 rfl (by decide +kernel) ?_
        show pm_E _ _ _ 88 [(0, .ref (pl 15)), (1, .ref (pl (60 + 2 * j))), (2, .int (iI w)), (3, .int (iI r)), (4, .int (iI e))] [] _ _ _ _
        refine pm_e_sim pm_a65_88 rfl ?_
        refine pm_e_top (y := iI 1) (by decide +kernel) ?_
        show pm_E _ _ _ 89 [(0, .ref (pl 15)), (1, .ref (pl (60 + 2 * j))), (2, .int (iI w)), (3, .int (iI r)), (4, .int (iI e))] [.int (iI 1)] _ _ _ _
        refine pm_e_goto pm_a65_89 rfl ?_
        show pm_E _ _ _ 94 [(0, .ref (pl 15)), (1, .ref (pl (60 + 2 * j))), (2, .int (iI w)), (3, .int (iI r)), (4, .int (iI e))] [.int (iI 1)] _ _ _ _
        refine pm_e_ret pm_a65_94 rfl rfl rfl rfl rfl rfl rfl rfl ?_
        refine k _ _ 1 _ (shM_t hm (shM_m h3)) (fun i i1 i2 => by rw [updC_n i2, updC_n i1]) ?_ ?_ hle ⟨(c j).2.2, hrg, Or.inr ⟨r, e, f1, k1, b, by rw [← hz]; exact hn, by omega, tp, hb, Or.inr ⟨hle, rfl, rfl⟩⟩⟩
        · rw [updC_n (fun h => hj1 h.symm), updC_at]; exact hz3.1
        · rw [updC_at, hrj]; exact hx
      · skip
        rw [updC_n hj1, hz, hrj] at hgt
        show pm_E _ _ _ 85 [(0, .ref (pl 15)), (1, .ref (pl (60 + 2 * j))), (2, .int (iI w)), (3, .int (iI r)), (4, .int (iI e))] [.int (iI 0)] _ _ _ _
        refine pm_e_ift pm_a65_85 rfl (by decide +kernel) ?_
        show pm_E _ _ _ 92 [(0, .ref (pl 15)), (1, .ref (pl (60 + 2 * j))), (2, .int (iI w)), (3, .int (iI r)), (4, .int (iI e))] [] _ _ _ _
        refine pm_e_sim pm_a65_92 rfl ?_
        refine pm_e_top (y := iI (-3)) (by decide +kernel) ?_
        show pm_E _ _ _ 94 [(0, .ref (pl 15)), (1, .ref (pl (60 + 2 * j))), (2, .int (iI w)), (3, .int (iI r)), (4, .int (iI e))] [.int (iI (-3))] _ _ _ _
        refine pm_e_ret pm_a65_94 rfl rfl rfl rfl rfl rfl rfl rfl ?_
        refine k _ _ (-3) l (shM_t hm (shM_m h3)) (fun i i1 i2 => by rw [updC_n i1]) ?_ ?_ (by omega) ⟨(c j).2.2, hrg, Or.inr ⟨r, e, f1, k1, b, by rw [← hz]; exact hn, by omega, tp, hb, Or.inl ⟨hgt, rfl, rfl⟩⟩⟩
        · rw [updC_at]; exact hz3.1
        · rw [updC_n hj1]; exact hl
    · skip
      show pm_E _ _ _ 43 [(0, .ref (pl 15)), (1, .ref (pl (60 + 2 * j))), (2, .int (iI w)), (3, .int (iI r)), (4, .int (iI e))] [] _ _ _ _
      refine pm_e_sim pm_a65_43 rfl ?_
      show pm_E _ _ _ 44 [(0, .ref (pl 15)), (1, .ref (pl (60 + 2 * j))), (2, .int (iI w)), (3, .int (iI r)), (4, .int (iI e))] [.ref (pl 15)] _ _ _ _
      refine pm_e_sim pm_a65_44 rfl ?_
      show pm_E _ _ _ 45 [(0, .ref (pl 15)), (1, .ref (pl (60 + 2 * j))), (2, .int (iI w)), (3, .int (iI r)), (4, .int (iI e))] [.ref (pl (60 + 2 * j)), .ref (pl 15)] _ _ _ _
      refine pm_e_sim pm_a65_45 rfl ?_
      show pm_E _ _ _ 46 [(0, .ref (pl 15)), (1, .ref (pl (60 + 2 * j))), (2, .int (iI w)), (3, .int (iI r)), (4, .int (iI e))] [.int (iI r), .ref (pl (60 + 2 * j)), .ref (pl 15)] _ _ _ _
      refine pm_e_sim pm_a65_46 rfl ?_
      refine pm_e_top (y := iI 2) (by decide +kernel) ?_
      show pm_E _ _ _ 47 [(0, .ref (pl 15)), (1, .ref (pl (60 + 2 * j))), (2, .int (iI w)), (3, .int (iI r)), (4, .int (iI e))] [.int (iI 2), .int (iI r), .ref (pl (60 + 2 * j)), .ref (pl 15)] _ _ _ _
      refine pm_e_sim pm_a65_47 rfl ?_
      refine pm_e_top (y := iI (r + 2)) (iI_add _ _) ?_
      show pm_E _ _ _ 48 [(0, .ref (pl 15)), (1, .ref (pl (60 + 2 * j))), (2, .int (iI w)), (3, .int (iI r)), (4, .int (iI e))] [.int (iI (r + 2)), .ref (pl (60 + 2 * j)), .ref (pl 15)] _ _ _ _
      refine pm_e_sim pm_a65_48 rfl ?_
      show pm_E _ _ _ 49 [(0, .ref (pl 15)), (1, .ref (pl (60 + 2 * j))), (2, .int (iI w)), (3, .int (iI r)), (4, .int (iI e))] [.ref (pl 15), .int (iI (r + 2)), .ref (pl (60 + 2 * j)), .ref (pl 15)] _ _ _ _
      refine pm_i_get pm_a65_49 rfl (cg_15 hW) rfl ?_
      show pm_E _ _ _ 52 [(0, .ref (pl 15)), (1, .ref (pl (60 + 2 * j))), (2, .int (iI w)), (3, .int (iI r)), (4, .int (iI e))] [.ref (pl 6), .int (iI (r + 2)), .ref (pl (60 + 2 * j)), .ref (pl 15)] _ _ _ _
      refine pm_e_sim pm_a65_52 rfl ?_
      show pm_E _ _ _ 53 [(0, .ref (pl 15)), (1, .ref (pl (60 + 2 * j))), (2, .int (iI w)), (3, .int (iI r)), (4, .int (iI e))] [.int (iI r), .ref (pl 6), .int (iI (r + 2)), .ref (pl (60 + 2 * j)), .ref (pl 15)] _ _ _ _
      refine pm_e_sim pm_a65_53 rfl ?_
      refine pm_e_top (y := iI 2) (by decide +kernel) ?_
      show pm_E _ _ _ 54 [(0, .ref (pl 15)), (1, .ref (pl (60 + 2 * j))), (2, .int (iI w)), (3, .int (iI r)), (4, .int (iI e))] [.int (iI 2), .int (iI r), .ref (pl 6), .int (iI (r + 2)), .ref (pl (60 + 2 * j)), .ref (pl 15)] _ _ _ _
      refine pm_e_sim pm_a65_54 rfl ?_
      refine pm_e_top (y := iI (r + 2)) (iI_add _ _) ?_
      show pm_E _ _ _ 55 [(0, .ref (pl 15)), (1, .ref (pl (60 + 2 * j))), (2, .int (iI w)), (3, .int (iI r)), (4, .int (iI e))] [.int (iI (r + 2)), .ref (pl 6), .int (iI (r + 2)), .ref (pl (60 + 2 * j)), .ref (pl 15)] _ _ _ _
      refine pm_i_callv (k := (pl 6)) (T2 := pm_mm72) pm_a65_55 rfl rfl rfl (cg_6 hW) ⟨Nat.le_of_ble_eq_true rfl, Nat.le_of_ble_eq_true rfl, rfl, by decide +kernel⟩ ?_
      show pm_E none _ _ 0 [(0, .ref (pl 6)), (1, .int (iI (r + 2)))] [] _ _ _ _
      have hth : thn (c j).2.2 r := by rcases hcn with ⟨_, h⟩ | ⟨h, _⟩; exact h; omega
      obtain ⟨u, fa, ka, fc, fd, t1, d1, d2, hE, lu1, lu2, hno⟩ := eta_parts tp h2 h1 hth
      refine C_endOf hW ⟨by omega, by omega⟩ ?_
      rw [shE_y (by omega) (by omega)]
      show pm_E _ _ _ _ _ (.int (iI (E (r + 2))) :: _) _ _ _ _
      rw [hE]
      show pm_E _ _ _ 58 [(0, .ref (pl 15)), (1, .ref (pl (60 + 2 * j))), (2, .int (iI w)), (3, .int (iI r)), (4, .int (iI e))] [.int (iI u), .int (iI (r + 2)), .ref (pl (60 + 2 * j)), .ref (pl 15)] _ _ _ _
      refine pm_e_sim pm_a65_58 rfl ?_
      show pm_E _ _ _ 60 [(0, .ref (pl 15)), (1, .ref (pl (60 + 2 * j))), (2, .int (iI w)), (3, .int (iI r)), (4, .int (iI e))] [.int (iI e), .int (iI u), .int (iI (r + 2)), .ref (pl (60 + 2 * j)), .ref (pl 15)] _ _ _ _
      refine pm_i_callv (k := (pl 15)) (T2 := pm_mm82) pm_a65_60 rfl rfl rfl (cg_15 hW) ⟨Nat.le_of_ble_eq_true rfl, Nat.le_of_ble_eq_true rfl, rfl, by decide +kernel⟩ ?_
      show pm_E none _ _ 0 [(0, .ref (pl 15)), (1, .ref (pl (60 + 2 * j))), (2, .int (iI (r + 2))), (3, .int (iI u)), (4, .int (iI e))] [] _ _ _ _
      refine C_putBody (a := updA (updA a1 1 E) 2 D) hW hj hj1 (updC_n hj1) hok hg (by omega) (by omega) (by omega) (by omega) (fun q a b => ?_) (fun q a b => ?_) (by rw [updC_at]; exact hz1) (fun z2 hz2 => ?_)
      · obtain ⟨_, _, _, _, _, _⟩ := dp_sub d1 q a b
        show _ ≤ D q ∧ D q ≤ 1000
        omega
      · obtain ⟨_, _, _, _, _, _⟩ := dp_sub d2 q a b
        show _ ≤ D q ∧ D q ≤ 1000
        omega
      rw [updC_s]
      have hbr : bet (c j).2.2 (fun q => D q - 1) D u (e - u).toNat (u - (r + 2)).toNat (r + 2) = rg (rsI (c j).2.2 (fun q => D q - 1) (-1)) (u - (r + 2)).toNat (r + 2) := bet_rs (fun i a b => ?_)
      rotate_left
      · obtain ⟨_, _, _, _, _, _⟩ := dp_sub d1 i a (by omega)
        have := hno i a (by omega)
        exact ⟨by show _ ≠ 10 + (D i - 1); omega, by show 0 ≤ D i - 1; omega⟩
      have hz3 : md z2 (rm 1) (rg (rsI (c j).2.2 (fun q => D q - 1) (-1)) (u - (r + 2)).toNat (r + 2)) := by rw [← hbr]; exact hz2
      have hb : bec (c j).2.2 w r e (rg (rsI (c j).2.2 (fun q => D q - 1) (-1)) (u - (r + 2)).toNat (r + 2)) := Or.inl ⟨by omega, u, (u - (r + 2)).toNat, ka, fun q => D q - 1, tm_small t1 _ (Nat.le_refl _), dp_small (dp_off (o := 1) d1) _ (Nat.le_refl _), rfl⟩
      generalize rg (rsI (c j).2.2 (fun q => D q - 1) (-1)) (u - (r + 2)).toNat (r + 2) = b at hz3 hb
      show pm_E _ _ _ 63 [(0, .ref (pl 15)), (1, .ref (pl (60 + 2 * j))), (2, .int (iI w)), (3, .int (iI r)), (4, .int (iI e))] [] _ _ _ _
      refine pm_e_goto pm_a65_63 rfl ?_
      show pm_E _ _ _ 74 [(0, .ref (pl 15)), (1, .ref (pl (60 + 2 * j))), (2, .int (iI w)), (3, .int (iI r)), (4, .int (iI e))] [] _ _ _ _
      refine pm_e_sim pm_a65_74 rfl ?_
      show pm_E _ _ _ 75 [(0, .ref (pl 15)), (1, .ref (pl (60 + 2 * j))), (2, .int (iI w)), (3, .int (iI r)), (4, .int (iI e))] [.ref (pl (60 + 2 * j))] _ _ _ _
      refine pm_e_sim pm_a65_75 rfl ?_
      show pm_E _ _ _ 76 [(0, .ref (pl 15)), (1, .ref (pl (60 + 2 * j))), (2, .int (iI w)), (3, .int (iI r)), (4, .int (iI e))] [.int (iI r), .ref (pl (60 + 2 * j))] _ _ _ _
      refine pm_e_sim pm_a65_76 rfl ?_
      show pm_E _ _ _ 78 [(0, .ref (pl 15)), (1, .ref (pl (60 + 2 * j))), (2, .int (iI w)), (3, .int (iI r)), (4, .int (iI e))] [.int (iI e), .int (iI r), .ref (pl (60 + 2 * j))] _ _ _ _
      refine pm_e_sim pm_a65_78 rfl ?_
      show pm_E _ _ _ 79 [(0, .ref (pl 15)), (1, .ref (pl (60 + 2 * j))), (2, .int (iI w)), (3, .int (iI r)), (4, .int (iI e))] [.ref (pl 15), .int (iI e), .int (iI r), .ref (pl (60 + 2 * j))] _ _ _ _
      refine pm_i_get pm_a65_79 rfl (cg_15 hW) rfl ?_
      show pm_E _ _ _ 82 [(0, .ref (pl 15)), (1, .ref (pl (60 + 2 * j))), (2, .int (iI w)), (3, .int (iI r)), (4, .int (iI e))] [.ref (pl (60 + 2 * 1)), .int (iI e), .int (iI r), .ref (pl (60 + 2 * j))] _ _ _ _
      refine pm_i_callv (k := (pl (60 + 2 * j))) (T2 := pm_mm86) pm_a65_82 rfl rfl rfl (cg_o hj) ⟨Nat.le_of_ble_eq_true rfl, Nat.le_of_ble_eq_true rfl, rfl, by decide +kernel⟩ ?_
      show pm_E none _ _ 0 [(0, .ref (pl (60 + 2 * j))), (1, .int (iI r)), (2, .int (iI e)), (3, .ref (pl (60 + 2 * 1)))] [] _ _ _ _
      refine C_replacePart (p := r) (e := e) hW hj (cj1 hW) hj1 (by rw [hrj]; exact Nat.le_refl _) updC_at (by rw [updC_n hj1]; exact hok) (by rw [updC_n hj1]; exact hov) hz3 (by omega) (by omega) (by rw [updC_n hj1]; exact he) (fun hle x hx => ?_) (fun hgt => ?_)
      · skip
        rw [updC_n hj1, hz, hrj] at hle hx
        show pm_E _ _ _ 85 [(0, .ref (pl 15)), (1, .ref (pl (60 + 2 * j))), (2, .int (iI w)), (3, .int (iI r)), (4, .int (iI e))] [.int (iI 1)] _ _ _ _
        refine pm_e_iff pm_a65_85 rfl (by decide +kernel) ?_
        show pm_E _ _ _ 88 [(0, .ref (pl 15)), (1, .ref (pl (60 + 2 * j))), (2, .int (iI w)), (3, .int (iI r)), (4, .int (iI e))] [] _ _ _ _
        refine pm_e_sim pm_a65_88 rfl ?_
        refine pm_e_top (y := iI 1) (by decide +kernel) ?_
        show pm_E _ _ _ 89 [(0, .ref (pl 15)), (1, .ref (pl (60 + 2 * j))), (2, .int (iI w)), (3, .int (iI r)), (4, .int (iI e))] [.int (iI 1)] _ _ _ _
        refine pm_e_goto pm_a65_89 rfl ?_
        show pm_E _ _ _ 94 [(0, .ref (pl 15)), (1, .ref (pl (60 + 2 * j))), (2, .int (iI w)), (3, .int (iI r)), (4, .int (iI e))] [.int (iI 1)] _ _ _ _
        refine pm_e_ret pm_a65_94 rfl rfl rfl rfl rfl rfl rfl rfl ?_
        refine k _ _ 1 _ (shM_t hm (shM_m h3)) (fun i i1 i2 => by rw [updC_n i2, updC_n i1]) ?_ ?_ hle ⟨(c j).2.2, hrg, Or.inr ⟨r, e, f1, k1, b, by rw [← hz]; exact hn, by omega, tp, hb, Or.inr ⟨hle, rfl, rfl⟩⟩⟩
        · rw [updC_n (fun h => hj1 h.symm), updC_at]; exact hz3.1
        · rw [updC_at, hrj]; exact hx
      · skip
        rw [updC_n hj1, hz, hrj] at hgt
        show pm_E _ _ _ 85 [(0, .ref (pl 15)), (1, .ref (pl (60 + 2 * j))), (2, .int (iI w)), (3, .int (iI r)), (4, .int (iI e))] [.int (iI 0)] _ _ _ _
        refine pm_e_ift pm_a65_85 rfl (by decide +kernel) ?_
        show pm_E _ _ _ 92 [(0, .ref (pl 15)), (1, .ref (pl (60 + 2 * j))), (2, .int (iI w)), (3, .int (iI r)), (4, .int (iI e))] [] _ _ _ _
        refine pm_e_sim pm_a65_92 rfl ?_
        refine pm_e_top (y := iI (-3)) (by decide +kernel) ?_
        show pm_E _ _ _ 94 [(0, .ref (pl 15)), (1, .ref (pl (60 + 2 * j))), (2, .int (iI w)), (3, .int (iI r)), (4, .int (iI e))] [.int (iI (-3))] _ _ _ _
        refine pm_e_ret pm_a65_94 rfl rfl rfl rfl rfl rfl rfl rfl ?_
        refine k _ _ (-3) l (shM_t hm (shM_m h3)) (fun i i1 i2 => by rw [updC_n i1]) ?_ ?_ (by omega) ⟨(c j).2.2, hrg, Or.inr ⟨r, e, f1, k1, b, by rw [← hz]; exact hn, by omega, tp, hb, Or.inl ⟨hgt, rfl, rfl⟩⟩⟩
        · rw [updC_at]; exact hz3.1
        · rw [updC_n hj1]; exact hl
  · skip
    show pm_E _ _ _ 11 [(0, .ref (pl 15)), (1, .ref (pl (60 + 2 * j))), (2, .int (iI w)), (3, .int (iI r))] [] _ _ _ _
    refine pm_e_sim pm_a65_11 rfl ?_
    refine pm_e_top (y := iI 0) (by decide +kernel) ?_
    show pm_E _ _ _ 12 [(0, .ref (pl 15)), (1, .ref (pl (60 + 2 * j))), (2, .int (iI w)), (3, .int (iI r))] [.int (iI 0)] _ _ _ _
    refine pm_e_ret pm_a65_12 rfl rfl rfl rfl rfl rfl rfl rfl ?_
    have e4 : r = -4 := by rcases hn with ⟨z, _⟩ | ⟨z, y, _⟩ <;> omega
    subst e4
    exact k a1 c 0 l hm (fun _ _ _ => rfl) ho1 hl (by omega) ⟨(c j).2.2, hrg, Or.inl ⟨by rw [← hz]; exact hn, rfl, rfl⟩⟩
