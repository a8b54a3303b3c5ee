/-! THE CLASS: copy -/
set_option maxHeartbeats 4000000 in
set_option maxRecDepth 100000 in
theorem C_copy {d n : Nat} {kd pl : Nat → Nat} {s : Nat → Int} {a : Nat → Int → Int} {c : Nat → cdt} {M : List va_E} {Q : Option Value → List va_E → Nat → Nat → Prop} {N : Int} {T : Int → List Int} {t : Int} (hW : wf n kd pl) (hS : cS n kd pl s c N T) (hT : ∀ t, 0 ≤ t → t < N → (T t).length ≤ 500 ∧ ∃ f, tL f 0 (T t)) (ht : in32 t) (hf : s 0 < 32 → (al n kd pl (60 + 2 * (6 + (s 0).toNat)) ∧ okx (rm (6 + (s 0).toNat)) (c (6 + (s 0).toNat))) ∨ (pl (60 + 2 * (6 + (s 0).toNat)) = 0 ∧ pl (61 + 2 * (6 + (s 0).toNat)) = 0)) (kb : (t < 0 ∨ N ≤ t) → Q (some (.int (iI (-1)))) (ch n kd pl s a c M) 0 0) (kf : 0 ≤ t → t < N → s 0 = 32 → Q (some (.int (iI (-3)))) (ch n kd pl s a c M) 0 0) (k : 0 ≤ t → t < N → s 0 < 32 → ∀ n' kd' pl' y nc ns, grx (6 + (s 0).toNat) n kd pl n' kd' pl' → nc ≤ 2 → ns ≤ 503 → al n' kd' pl' (60 + 2 * (6 + (s 0).toNat)) → md y (rm (6 + (s 0).toNat)) (T t) → Q (some (.int (iI (s 0)))) (ch n' kd' pl' (updS s 0 (s 0 + 1)) a (updC c (6 + (s 0).toNat) y) M) nc ns) : pm_E none (d + 3) pm_mm60 0 [(0, .ref (pl 0)), (1, .int (iI t))] [] (ch n kd pl s a c M) 0 0 Q := by
  obtain ⟨hS1, hS2, hS3, hS4⟩ := id hS
  obtain ⟨_, _⟩ := id ht
  refine pm_e_sim pm_a60_0 rfl ?_
  show pm_E _ _ _ 1 [(0, .ref (pl 0)), (1, .int (iI t))] [.ref (pl 0)] _ _ _ _
  refine pm_e_sim pm_a60_1 rfl ?_
  show pm_E _ _ _ 2 [(0, .ref (pl 0)), (1, .int (iI t))] [.int (iI t), .ref (pl 0)] _ _ _ _
  refine pm_i_callv (k := (pl 0)) (T2 := pm_mm45) pm_a60_2 rfl rfl rfl (cg_0 hW) ⟨Nat.le_of_ble_eq_true rfl, Nat.le_of_ble_eq_true rfl, rfl, by decide +kernel⟩ ?_
  show pm_E none _ _ 0 [(0, .ref (pl 0)), (1, .int (iI t))] [] _ _ _ _
  refine C_termAt hW hS ⟨by omega, by omega⟩ (fun t0j t1j j ej hj lj => ?_) (fun t9j => ?_)
  · skip
    have rbj := rm_b j
    have rmj : rm j = 500 := if_neg (by omega)
    obtain ⟨hlj, _⟩ := hT t (by omega) (by omega)
    obtain ⟨ovj, zj, gj⟩ : (c j).2.1 = 0 ∧ (c j).1 = (T t).length ∧ rg (c j).2.2 (T t).length 0 = T t := by rcases lj.2 with ⟨_, h1, h2, h3⟩ | ⟨h, _⟩; exact ⟨h1, h2, h3⟩; omega
    show pm_E _ _ _ 5 [(0, .ref (pl 0)), (1, .int (iI t))] [.ref (pl (60 + 2 * j))] _ _ _ _
    refine pm_e_sim pm_a60_5 rfl ?_
    show pm_E _ _ _ 6 [(0, .ref (pl 0)), (1, .int (iI t)), (2, .ref (pl (60 + 2 * j)))] [] _ _ _ _
    refine pm_e_sim pm_a60_6 rfl ?_
    show pm_E _ _ _ 7 [(0, .ref (pl 0)), (1, .int (iI t)), (2, .ref (pl (60 + 2 * j)))] [.ref (pl (60 + 2 * j))] _ _ _ _
    refine pm_e_jmp pm_a60_7 rfl rfl ?_
    show pm_E _ _ _ 12 [(0, .ref (pl 0)), (1, .int (iI t)), (2, .ref (pl (60 + 2 * j)))] [] _ _ _ _
    refine pm_e_sim pm_a60_12 rfl ?_
    show pm_E _ _ _ 13 [(0, .ref (pl 0)), (1, .int (iI t)), (2, .ref (pl (60 + 2 * j)))] [.ref (pl 0)] _ _ _ _
    refine pm_i_callv (k := pl 0) (T2 := pm_mm12) pm_a60_13 rfl rfl rfl (cg_0 hW) ⟨Nat.le_of_ble_eq_true rfl, Nat.le_of_ble_eq_true rfl, rfl, by decide +kernel⟩ ?_
    show pm_E none _ _ 0 [(0, .ref (pl 0))] [] _ _ _ _
    refine C_freshTerm hW (by omega) (by omega) hf (fun h32 => ?_) (fun hlt n2 kd2 pl2 x nc2 ns2 hg hnc hns hal hx => ?_)
    · skip
      show pm_E _ _ _ 16 [(0, .ref (pl 0)), (1, .int (iI t)), (2, .ref (pl (60 + 2 * j)))] [.null] _ _ _ _
      refine pm_e_sim pm_a60_16 rfl ?_
      show pm_E _ _ _ 17 [(0, .ref (pl 0)), (1, .int (iI t)), (2, .ref (pl (60 + 2 * j))), (3, .null)] [] _ _ _ _
      refine pm_e_sim pm_a60_17 rfl ?_
      show pm_E _ _ _ 18 [(0, .ref (pl 0)), (1, .int (iI t)), (2, .ref (pl (60 + 2 * j))), (3, .null)] [.null] _ _ _ _
      refine pm_e_jmp pm_a60_18 rfl rfl ?_
      show pm_E _ _ _ 21 [(0, .ref (pl 0)), (1, .int (iI t)), (2, .ref (pl (60 + 2 * j))), (3, .null)] [] _ _ _ _
      refine pm_e_sim pm_a60_21 rfl ?_
      refine pm_e_top (y := iI (-3)) (by decide +kernel) ?_
      show pm_E _ _ _ 23 [(0, .ref (pl 0)), (1, .int (iI t)), (2, .ref (pl (60 + 2 * j))), (3, .null)] [.int (iI (-3))] _ _ _ _
      refine pm_e_ret pm_a60_23 rfl rfl rfl rfl rfl rfl rfl rfl ?_
      exact kf (by omega) (by omega) h32
    · obtain ⟨hg, hgx⟩ := hg
      have e0 := (hg.2.2 0 (hW.2.1 0 (by decide))).2
      have e1 := hg.2.2 _ hj.2
      have hne : j ≠ 6 + (s 0).toNat := by omega
      show pm_E _ _ _ 16 [(0, .ref (pl 0)), (1, .int (iI t)), (2, .ref (pl (60 + 2 * j)))] [.ref (pl2 (60 + 2 * (6 + (s 0).toNat)))] _ _ _ _
      rw [← e0, ← e1.2]
      refine pm_e_sim pm_a60_16 rfl ?_
      refine pm_e_sim pm_a60_17 rfl ?_
      refine pm_e_jmp pm_a60_18 rfl rfl ?_
      show pm_E _ _ _ 24 [(0, .ref (pl2 0)), (1, .int (iI t)), (2, .ref (pl2 (60 + 2 * j))), (3, .ref (pl2 (60 + 2 * (6 + (s 0).toNat))))] [] _ _ _ _
      refine C_copy_t hg.1 ⟨hj.1, e1.1⟩ ⟨by omega, hal⟩ hne (by rw [updC_n hne]; exact lj.1) (by rw [updC_at]; exact hx) (fun y hy => ?_)
      rw [updC_n hne, zj, show (((T t).length : Int)).toNat = (T t).length by omega, gj] at hy
      rw [updC_s]
      exact k (by omega) (by omega) hlt n2 kd2 pl2 y _ _ ⟨hg, hgx⟩ (by omega) (by omega) hal hy
  · skip
    show pm_E _ _ _ 5 [(0, .ref (pl 0)), (1, .int (iI t))] [.null] _ _ _ _
    refine pm_e_sim pm_a60_5 rfl ?_
    show pm_E _ _ _ 6 [(0, .ref (pl 0)), (1, .int (iI t)), (2, .null)] [] _ _ _ _
    refine pm_e_sim pm_a60_6 rfl ?_
    show pm_E _ _ _ 7 [(0, .ref (pl 0)), (1, .int (iI t)), (2, .null)] [.null] _ _ _ _
    refine pm_e_jmp pm_a60_7 rfl rfl ?_
    show pm_E _ _ _ 10 [(0, .ref (pl 0)), (1, .int (iI t)), (2, .null)] [] _ _ _ _
    refine pm_e_sim pm_a60_10 rfl ?_
    refine pm_e_top (y := iI (-1)) (by decide +kernel) ?_
    show pm_E _ _ _ 11 [(0, .ref (pl 0)), (1, .int (iI t)), (2, .null)] [.int (iI (-1))] _ _ _ _
    refine pm_e_ret pm_a60_11 rfl rfl rfl rfl rfl rfl rfl rfl ?_
    exact kb (by omega)
