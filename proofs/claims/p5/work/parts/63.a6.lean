/-! THE CLASS: apply -/
set_option maxHeartbeats 4000000 in
set_option maxRecDepth 100000 in
theorem C_apply {d n : Nat} {kd pl : Nat → Nat} {s : Nat → Int} {a : Nat → Int → Int} {c : Nat → cdt} {M : List va_E} {Q : Option Value → List va_E → Nat → Nat → Prop} {N : Int} {T : Int → List Int} {t u : Int} (hW : wf n kd pl) (hS : cS n kd pl s c N T) (hT : ∀ t, 0 ≤ t → t < N → (T t).length ≤ 500 ∧ ∃ f, tL f 0 (T t)) (ht : in32 t) (hu : in32 u) (hf : s 0 < 32 → (al n kd pl (60 + 2 * (6 + (s 0).toNat)) ∧ okx (rm (6 + (s 0).toNat)) (c (6 + (s 0).toNat))) ∨ (pl (60 + 2 * (6 + (s 0).toNat)) = 0 ∧ pl (61 + 2 * (6 + (s 0).toNat)) = 0)) (kb : (t < 0 ∨ N ≤ t ∨ u < 0 ∨ N ≤ u) → Q (some (.int (iI (-1)))) (ch n kd pl s a c M) 0 0) (kf : 0 ≤ t → t < N → 0 ≤ u → u < N → s 0 = 32 → Q (some (.int (iI (-3)))) (ch n kd pl s a c M) 0 0) (k : 0 ≤ t → t < N → 0 ≤ u → u < N → s 0 < 32 → ∀ n' kd' pl' y nc ns, grx (6 + (s 0).toNat) n kd pl n' kd' pl' → nc ≤ 2 → ns ≤ 503 → al n' kd' pl' (60 + 2 * (6 + (s 0).toNat)) → md y (rm (6 + (s 0).toNat)) ([] ++ [0] ++ T t ++ T u) → y.2.1 = 0 → Q (some (.int (iI (s 0)))) (ch n' kd' pl' (updS s 0 (s 0 + 1)) a (updC c (6 + (s 0).toNat) y) M) nc ns) (k0 : 0 ≤ t → t < N → 0 ≤ u → u < N → s 0 < 32 → ∀ n' kd' pl' y nc ns, grx (6 + (s 0).toNat) n kd pl n' kd' pl' → nc ≤ 2 → ns ≤ 503 → al n' kd' pl' (60 + 2 * (6 + (s 0).toNat)) → md y (rm (6 + (s 0).toNat)) ([] ++ [0] ++ T t ++ T u) → y.2.1 ≠ 0 → Q (some (.int (iI (-3)))) (ch n' kd' pl' s a (updC c (6 + (s 0).toNat) y) M) nc ns) : pm_E none (d + 3) pm_mm57 0 [(0, .ref (pl 0)), (1, .int (iI t)), (2, .int (iI u))] [] (ch n kd pl s a c M) 0 0 Q := by
  obtain ⟨hS1, hS2, hS3, hS4⟩ := id hS
  obtain ⟨_, _⟩ := id ht
  obtain ⟨_, _⟩ := id hu
  refine pm_e_sim pm_a57_0 rfl ?_
  show pm_E _ _ _ 1 [(0, .ref (pl 0)), (1, .int (iI t)), (2, .int (iI u))] [.ref (pl 0)] _ _ _ _
  refine pm_e_sim pm_a57_1 rfl ?_
  show pm_E _ _ _ 2 [(0, .ref (pl 0)), (1, .int (iI t)), (2, .int (iI u))] [.int (iI t), .ref (pl 0)] _ _ _ _
  refine pm_i_callv (k := (pl 0)) (T2 := pm_mm45) pm_a57_2 rfl rfl rfl (cg_0 hW) ⟨Nat.le_of_ble_eq_true rfl, Nat.le_of_ble_eq_true rfl, rfl, by decide +kernel⟩ ?_
  show pm_E none _ _ 0 [(0, .ref (pl 0)), (1, .int (iI t))] [] _ _ _ _
  refine C_termAt hW hS ⟨by omega, by omega⟩ (fun t0j t1j j ej hj lj => ?_) (fun t9j => ?_)
  · skip
    have rbj := rm_b j
    have rmj : rm j = 500 := if_neg (by omega)
    obtain ⟨hlj, _⟩ := hT t (by omega) (by omega)
    obtain ⟨ovj, zj, gj⟩ : (c j).2.1 = 0 ∧ (c j).1 = (T t).length ∧ rg (c j).2.2 (T t).length 0 = T t := by rcases lj.2 with ⟨_, h1, h2, h3⟩ | ⟨h, _⟩; exact ⟨h1, h2, h3⟩; omega
    show pm_E _ _ _ 5 [(0, .ref (pl 0)), (1, .int (iI t)), (2, .int (iI u))] [.ref (pl (60 + 2 * j))] _ _ _ _
    refine pm_e_sim pm_a57_5 rfl ?_
    show pm_E _ _ _ 6 [(0, .ref (pl 0)), (1, .int (iI t)), (2, .int (iI u)), (3, .ref (pl (60 + 2 * j)))] [] _ _ _ _
    refine pm_e_sim pm_a57_6 rfl ?_
    show pm_E _ _ _ 7 [(0, .ref (pl 0)), (1, .int (iI t)), (2, .int (iI u)), (3, .ref (pl (60 + 2 * j)))] [.ref (pl 0)] _ _ _ _
    refine pm_e_sim pm_a57_7 rfl ?_
    show pm_E _ _ _ 8 [(0, .ref (pl 0)), (1, .int (iI t)), (2, .int (iI u)), (3, .ref (pl (60 + 2 * j)))] [.int (iI u), .ref (pl 0)] _ _ _ _
    refine pm_i_callv (k := (pl 0)) (T2 := pm_mm45) pm_a57_8 rfl rfl rfl (cg_0 hW) ⟨Nat.le_of_ble_eq_true rfl, Nat.le_of_ble_eq_true rfl, rfl, by decide +kernel⟩ ?_
    show pm_E none _ _ 0 [(0, .ref (pl 0)), (1, .int (iI u))] [] _ _ _ _
    refine C_termAt hW hS ⟨by omega, by omega⟩ (fun t0m t1m m em hm lm => ?_) (fun t9m => ?_)
    · skip
      have rbm := rm_b m
      have rmm : rm m = 500 := if_neg (by omega)
      obtain ⟨hlm, _⟩ := hT u (by omega) (by omega)
      obtain ⟨ovm, zm, gm⟩ : (c m).2.1 = 0 ∧ (c m).1 = (T u).length ∧ rg (c m).2.2 (T u).length 0 = T u := by rcases lm.2 with ⟨_, h1, h2, h3⟩ | ⟨h, _⟩; exact ⟨h1, h2, h3⟩; omega
      show pm_E _ _ _ 11 [(0, .ref (pl 0)), (1, .int (iI t)), (2, .int (iI u)), (3, .ref (pl (60 + 2 * j)))] [.ref (pl (60 + 2 * m))] _ _ _ _
      refine pm_e_sim pm_a57_11 rfl ?_
      show pm_E _ _ _ 13 [(0, .ref (pl 0)), (1, .int (iI t)), (2, .int (iI u)), (3, .ref (pl (60 + 2 * j))), (4, .ref (pl (60 + 2 * m)))] [] _ _ _ _
      refine pm_e_sim pm_a57_13 rfl ?_
      show pm_E _ _ _ 14 [(0, .ref (pl 0)), (1, .int (iI t)), (2, .int (iI u)), (3, .ref (pl (60 + 2 * j))), (4, .ref (pl (60 + 2 * m)))] [.ref (pl (60 + 2 * j))] _ _ _ _
      refine pm_e_jmp pm_a57_14 rfl rfl ?_
      show pm_E _ _ _ 17 [(0, .ref (pl 0)), (1, .int (iI t)), (2, .int (iI u)), (3, .ref (pl (60 + 2 * j))), (4, .ref (pl (60 + 2 * m)))] [] _ _ _ _
      refine pm_e_sim pm_a57_17 rfl ?_
      show pm_E _ _ _ 19 [(0, .ref (pl 0)), (1, .int (iI t)), (2, .int (iI u)), (3, .ref (pl (60 + 2 * j))), (4, .ref (pl (60 + 2 * m)))] [.ref (pl (60 + 2 * m))] _ _ _ _
      refine pm_e_jmp pm_a57_19 rfl rfl ?_
      show pm_E _ _ _ 24 [(0, .ref (pl 0)), (1, .int (iI t)), (2, .int (iI u)), (3, .ref (pl (60 + 2 * j))), (4, .ref (pl (60 + 2 * m)))] [] _ _ _ _
      refine pm_e_sim pm_a57_24 rfl ?_
      show pm_E _ _ _ 25 [(0, .ref (pl 0)), (1, .int (iI t)), (2, .int (iI u)), (3, .ref (pl (60 + 2 * j))), (4, .ref (pl (60 + 2 * m)))] [.ref (pl 0)] _ _ _ _
      refine pm_i_callv (k := pl 0) (T2 := pm_mm12) pm_a57_25 rfl rfl rfl (cg_0 hW) ⟨Nat.le_of_ble_eq_true rfl, Nat.le_of_ble_eq_true rfl, rfl, by decide +kernel⟩ ?_
      show pm_E none _ _ 0 [(0, .ref (pl 0))] [] _ _ _ _
      refine C_freshTerm hW (by omega) (by omega) hf (fun h32 => ?_) (fun hlt n2 kd2 pl2 x nc2 ns2 hg hnc hns hal hx => ?_)
      · skip
        show pm_E _ _ _ 28 [(0, .ref (pl 0)), (1, .int (iI t)), (2, .int (iI u)), (3, .ref (pl (60 + 2 * j))), (4, .ref (pl (60 + 2 * m)))] [.null] _ _ _ _
        refine pm_e_sim pm_a57_28 rfl ?_
        show pm_E _ _ _ 30 [(0, .ref (pl 0)), (1, .int (iI t)), (2, .int (iI u)), (3, .ref (pl (60 + 2 * j))), (4, .ref (pl (60 + 2 * m))), (5, .null)] [] _ _ _ _
        refine pm_e_sim pm_a57_30 rfl ?_
        show pm_E _ _ _ 32 [(0, .ref (pl 0)), (1, .int (iI t)), (2, .int (iI u)), (3, .ref (pl (60 + 2 * j))), (4, .ref (pl (60 + 2 * m))), (5, .null)] [.null] _ _ _ _
        refine pm_e_jmp pm_a57_32 rfl rfl ?_
        show pm_E _ _ _ 35 [(0, .ref (pl 0)), (1, .int (iI t)), (2, .int (iI u)), (3, .ref (pl (60 + 2 * j))), (4, .ref (pl (60 + 2 * m))), (5, .null)] [] _ _ _ _
        refine pm_e_sim pm_a57_35 rfl ?_
        refine pm_e_top (y := iI (-3)) (by decide +kernel) ?_
        show pm_E _ _ _ 37 [(0, .ref (pl 0)), (1, .int (iI t)), (2, .int (iI u)), (3, .ref (pl (60 + 2 * j))), (4, .ref (pl (60 + 2 * m))), (5, .null)] [.int (iI (-3))] _ _ _ _
        refine pm_e_ret pm_a57_37 rfl rfl rfl rfl rfl rfl rfl rfl ?_
        exact kf (by omega) (by omega) (by omega) (by omega) (by omega)
      · obtain ⟨hg, hgx⟩ := hg
        have e0 := (hg.2.2 0 (hW.2.1 0 (by decide))).2
        have e1 := hg.2.2 _ hj.2
        have e2 := hg.2.2 _ hm.2
        have hne : j ≠ 6 + (s 0).toNat := by omega
        have hne2 : m ≠ 6 + (s 0).toNat := by omega
        show pm_E _ _ _ 28 [(0, .ref (pl 0)), (1, .int (iI t)), (2, .int (iI u)), (3, .ref (pl (60 + 2 * j))), (4, .ref (pl (60 + 2 * m)))] [.ref (pl2 (60 + 2 * (6 + (s 0).toNat)))] _ _ _ _
        rw [← e0, ← e1.2, ← e2.2]
        refine pm_e_sim pm_a57_28 rfl ?_
        refine pm_e_sim pm_a57_30 rfl ?_
        refine pm_e_jmp pm_a57_32 rfl rfl ?_
        show pm_E _ _ _ 38 [(0, .ref (pl2 0)), (1, .int (iI t)), (2, .int (iI u)), (3, .ref (pl2 (60 + 2 * j))), (4, .ref (pl2 (60 + 2 * m))), (5, .ref (pl2 (60 + 2 * (6 + (s 0).toNat))))] [] _ _ _ _
        refine C_apply_t hg.1 ⟨hj.1, e1.1⟩ ⟨hm.1, e2.1⟩ ⟨by omega, hal⟩ hne hne2 (by rw [updC_n hne]; exact lj.1) (by rw [updC_n hne2]; exact lm.1) (by rw [updC_at]; exact hx) (fun y hy ho => ?_) (fun y hy ho => ?_)
        · rw [updC_n hne, updC_n hne2, zj, zm, show (((T t).length : Int)).toNat = (T t).length by omega, show (((T u).length : Int)).toNat = (T u).length by omega, gj, gm] at hy
          rw [updC_s]
          exact k (by omega) (by omega) (by omega) (by omega) hlt n2 kd2 pl2 y _ _ ⟨hg, hgx⟩ (by omega) (by omega) hal hy ho
        · rw [updC_n hne, updC_n hne2, zj, zm, show (((T t).length : Int)).toNat = (T t).length by omega, show (((T u).length : Int)).toNat = (T u).length by omega, gj, gm] at hy
          rw [updC_s]
          exact k0 (by omega) (by omega) (by omega) (by omega) hlt n2 kd2 pl2 y _ _ ⟨hg, hgx⟩ (by omega) (by omega) hal hy ho
    · skip
      show pm_E _ _ _ 11 [(0, .ref (pl 0)), (1, .int (iI t)), (2, .int (iI u)), (3, .ref (pl (60 + 2 * j)))] [.null] _ _ _ _
      refine pm_e_sim pm_a57_11 rfl ?_
      show pm_E _ _ _ 13 [(0, .ref (pl 0)), (1, .int (iI t)), (2, .int (iI u)), (3, .ref (pl (60 + 2 * j))), (4, .null)] [] _ _ _ _
      refine pm_e_sim pm_a57_13 rfl ?_
      show pm_E _ _ _ 14 [(0, .ref (pl 0)), (1, .int (iI t)), (2, .int (iI u)), (3, .ref (pl (60 + 2 * j))), (4, .null)] [.ref (pl (60 + 2 * j))] _ _ _ _
      refine pm_e_jmp pm_a57_14 rfl rfl ?_
      show pm_E _ _ _ 17 [(0, .ref (pl 0)), (1, .int (iI t)), (2, .int (iI u)), (3, .ref (pl (60 + 2 * j))), (4, .null)] [] _ _ _ _
      refine pm_e_sim pm_a57_17 rfl ?_
      show pm_E _ _ _ 19 [(0, .ref (pl 0)), (1, .int (iI t)), (2, .int (iI u)), (3, .ref (pl (60 + 2 * j))), (4, .null)] [.null] _ _ _ _
      refine pm_e_jmp pm_a57_19 rfl rfl ?_
      show pm_E _ _ _ 22 [(0, .ref (pl 0)), (1, .int (iI t)), (2, .int (iI u)), (3, .ref (pl (60 + 2 * j))), (4, .null)] [] _ _ _ _
      refine pm_e_sim pm_a57_22 rfl ?_
      refine pm_e_top (y := iI (-1)) (by decide +kernel) ?_
      show pm_E _ _ _ 23 [(0, .ref (pl 0)), (1, .int (iI t)), (2, .int (iI u)), (3, .ref (pl (60 + 2 * j))), (4, .null)] [.int (iI (-1))] _ _ _ _
      refine pm_e_ret pm_a57_23 rfl rfl rfl rfl rfl rfl rfl rfl ?_
      exact kb (by omega)
  · skip
    show pm_E _ _ _ 5 [(0, .ref (pl 0)), (1, .int (iI t)), (2, .int (iI u))] [.null] _ _ _ _
    refine pm_e_sim pm_a57_5 rfl ?_
    show pm_E _ _ _ 6 [(0, .ref (pl 0)), (1, .int (iI t)), (2, .int (iI u)), (3, .null)] [] _ _ _ _
    refine pm_e_sim pm_a57_6 rfl ?_
    show pm_E _ _ _ 7 [(0, .ref (pl 0)), (1, .int (iI t)), (2, .int (iI u)), (3, .null)] [.ref (pl 0)] _ _ _ _
    refine pm_e_sim pm_a57_7 rfl ?_
    show pm_E _ _ _ 8 [(0, .ref (pl 0)), (1, .int (iI t)), (2, .int (iI u)), (3, .null)] [.int (iI u), .ref (pl 0)] _ _ _ _
    refine pm_i_callv (k := (pl 0)) (T2 := pm_mm45) pm_a57_8 rfl rfl rfl (cg_0 hW) ⟨Nat.le_of_ble_eq_true rfl, Nat.le_of_ble_eq_true rfl, rfl, by decide +kernel⟩ ?_
    show pm_E none _ _ 0 [(0, .ref (pl 0)), (1, .int (iI u))] [] _ _ _ _
    refine C_termAt hW hS ⟨by omega, by omega⟩ (fun t0j t1j j ej hj lj => ?_) (fun t9j => ?_)
    · skip
      have rbj := rm_b j
      have rmj : rm j = 500 := if_neg (by omega)
      obtain ⟨hlj, _⟩ := hT u (by omega) (by omega)
      obtain ⟨ovj, zj, gj⟩ : (c j).2.1 = 0 ∧ (c j).1 = (T u).length ∧ rg (c j).2.2 (T u).length 0 = T u := by rcases lj.2 with ⟨_, h1, h2, h3⟩ | ⟨h, _⟩; exact ⟨h1, h2, h3⟩; omega
      show pm_E _ _ _ 11 [(0, .ref (pl 0)), (1, .int (iI t)), (2, .int (iI u)), (3, .null)] [.ref (pl (60 + 2 * j))] _ _ _ _
      refine pm_e_sim pm_a57_11 rfl ?_
      show pm_E _ _ _ 13 [(0, .ref (pl 0)), (1, .int (iI t)), (2, .int (iI u)), (3, .null), (4, .ref (pl (60 + 2 * j)))] [] _ _ _ _
      refine pm_e_sim pm_a57_13 rfl ?_
      show pm_E _ _ _ 14 [(0, .ref (pl 0)), (1, .int (iI t)), (2, .int (iI u)), (3, .null), (4, .ref (pl (60 + 2 * j)))] [.null] _ _ _ _
      refine pm_e_jmp pm_a57_14 rfl rfl ?_
      show pm_E _ _ _ 22 [(0, .ref (pl 0)), (1, .int (iI t)), (2, .int (iI u)), (3, .null), (4, .ref (pl (60 + 2 * j)))] [] _ _ _ _
      refine pm_e_sim pm_a57_22 rfl ?_
      refine pm_e_top (y := iI (-1)) (by decide +kernel) ?_
      show pm_E _ _ _ 23 [(0, .ref (pl 0)), (1, .int (iI t)), (2, .int (iI u)), (3, .null), (4, .ref (pl (60 + 2 * j)))] [.int (iI (-1))] _ _ _ _
      refine pm_e_ret pm_a57_23 rfl rfl rfl rfl rfl rfl rfl rfl ?_
      exact kb (by omega)
    · skip
      show pm_E _ _ _ 11 [(0, .ref (pl 0)), (1, .int (iI t)), (2, .int (iI u)), (3, .null)] [.null] _ _ _ _
      refine pm_e_sim pm_a57_11 rfl ?_
      show pm_E _ _ _ 13 [(0, .ref (pl 0)), (1, .int (iI t)), (2, .int (iI u)), (3, .null), (4, .null)] [] _ _ _ _
      refine pm_e_sim pm_a57_13 rfl ?_
      show pm_E _ _ _ 14 [(0, .ref (pl 0)), (1, .int (iI t)), (2, .int (iI u)), (3, .null), (4, .null)] [.null] _ _ _ _
      refine pm_e_jmp pm_a57_14 rfl rfl ?_
      show pm_E _ _ _ 22 [(0, .ref (pl 0)), (1, .int (iI t)), (2, .int (iI u)), (3, .null), (4, .null)] [] _ _ _ _
      refine pm_e_sim pm_a57_22 rfl ?_
      refine pm_e_top (y := iI (-1)) (by decide +kernel) ?_
      show pm_E _ _ _ 23 [(0, .ref (pl 0)), (1, .int (iI t)), (2, .int (iI u)), (3, .null), (4, .null)] [.int (iI (-1))] _ _ _ _
      refine pm_e_ret pm_a57_23 rfl rfl rfl rfl rfl rfl rfl rfl ?_
      exact kb (by omega)
