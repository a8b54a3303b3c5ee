/-! THE CLASS: Typer, exactly: joinAll -/
set_option maxHeartbeats 4000000 in
set_option maxRecDepth 100000 in
theorem C_zjoinAll_l {d n : Nat} {kd pl : Nat → Nat} {M : List va_E} {Q : Option Value → List va_E → Nat → Nat → Prop} {s : Nat → Int} {c : Nat → cdt} {a0 : Nat → Int → Int} {X : (Int → List Int) → Prop} {x y : Int} (hW : wf n kd pl) (h203 : al n kd pl 203) (hK : s 20 ≤ 2800) (hK0 : 0 < s 20) : ∀ (f : Nat) (i q : Int) (a : Nat → Int → Int), 0 ≤ i → i ≤ q → (∀ j, j ≠ 11 → j ≠ 12 → a j = a0 j) → (∃ rt, JI (s 20) (a 9) (a 10) (a 11) rt noW (QS (a 12) i q) X) → q ≤ cnr (a 11) (s 20).toNat → (∀ a rt, (∀ j, j ≠ 11 → j ≠ 12 → a j = a0 j) → JI (s 20) (a 9) (a 10) (a 11) rt noW noP X → Q none (ch n kd pl s a c M) 0 0) → 2801 - i < (f : Int) → pm_E none (d + 3) pm_mm120 11 [(0, .ref (pl 203)), (1, .int (iI x)), (2, .int (iI y)), (3, .int (iI q)), (4, .int (iI i))] [] (ch n kd pl s a c M) 0 0 Q := by
  intro f
  induction f with
  | zero =>
    intro i q a h0 h1 fA hJ hc k hf
    exfalso
    have cl := cnr_le (lk := a 11) (n := (s 20).toNat)
    omega
  | succ f ih =>
    intro i q a h0 h1 fA hJ hc k hf
    obtain ⟨rt, hJ⟩ := hJ
    have cl := cnr_lt (lk := a 11) (g := rt 0) (hJ.1.1 0 (by omega) (by omega)).2.2.2 (n := (s 20).toNat) (hJ.2.1.2.1 0 (by omega) (by omega)).1 (by have := (hJ.2.1.2.1 0 (by omega) (by omega)).2.1; omega)
    have pj9 : i < q → _ := fun z => hJ.2.1.2.2.2.1 (a 12 i) ⟨i, by omega, z, rfl⟩
    refine pm_e_sim pm_a120_11 rfl ?_
    show pm_E _ _ _ 13 [(0, .ref (pl 203)), (1, .int (iI x)), (2, .int (iI y)), (3, .int (iI q)), (4, .int (iI i))] [.int (iI i)] _ _ _ _
    refine pm_e_sim pm_a120_13 rfl ?_
    show pm_E _ _ _ 14 [(0, .ref (pl 203)), (1, .int (iI x)), (2, .int (iI y)), (3, .int (iI q)), (4, .int (iI i))] [.int (iI q), .int (iI i)] _ _ _ _
    refine pm_c_ge (t := 98) pm_a120_14 rfl ⟨by omega, by omega⟩ ⟨by omega, by omega⟩ (fun h_1 => ?_) (fun h_1 => ?_)
    · skip
      show pm_E _ _ _ 98 [(0, .ref (pl 203)), (1, .int (iI x)), (2, .int (iI y)), (3, .int (iI q)), (4, .int (iI i))] [] _ _ _ _
      refine pm_e_ret pm_a120_98 rfl rfl rfl rfl rfl rfl rfl rfl ?_
      exact k a rt fA (JI_P hJ (fun j ⟨k9, k1, k2, k3⟩ => by omega) (fun _ z => z.elim))
    · skip
      show pm_E _ _ _ 17 [(0, .ref (pl 203)), (1, .int (iI x)), (2, .int (iI y)), (3, .int (iI q)), (4, .int (iI i))] [] _ _ _ _
      refine pm_e_sim pm_a120_17 rfl ?_
      show pm_E _ _ _ 19 [(0, .ref (pl 203)), (1, .int (iI x)), (2, .int (iI y)), (3, .int (iI q)), (4, .int (iI i))] [.int (iI i)] _ _ _ _
      refine pm_e_sim pm_a120_19 rfl ?_
      refine pm_e_top (y := iI 2800) (by decide +kernel) ?_
      show pm_E _ _ _ 22 [(0, .ref (pl 203)), (1, .int (iI x)), (2, .int (iI y)), (3, .int (iI q)), (4, .int (iI i))] [.int (iI 2800), .int (iI i)] _ _ _ _
      refine pm_c_ge (t := 98) pm_a120_22 rfl ⟨by omega, by omega⟩ ⟨by omega, by omega⟩ (fun h_2 => ?_) (fun h_2 => ?_)
      · skip
        show pm_E _ _ _ 98 [(0, .ref (pl 203)), (1, .int (iI x)), (2, .int (iI y)), (3, .int (iI q)), (4, .int (iI i))] [] _ _ _ _
        refine pm_e_ret pm_a120_98 rfl rfl rfl rfl rfl rfl rfl rfl ?_
        exact k a rt fA (JI_P hJ (fun j ⟨k9, k1, k2, k3⟩ => by omega) (fun _ z => z.elim))
      · skip
        show pm_E _ _ _ 25 [(0, .ref (pl 203)), (1, .int (iI x)), (2, .int (iI y)), (3, .int (iI q)), (4, .int (iI i))] [] _ _ _ _
        refine pm_e_sim pm_a120_25 rfl ?_
        show pm_E _ _ _ 26 [(0, .ref (pl 203)), (1, .int (iI x)), (2, .int (iI y)), (3, .int (iI q)), (4, .int (iI i))] [.ref (pl 203)] _ _ _ _
        refine pm_i_get pm_a120_26 rfl (cg_203 hW h203) rfl ?_
        show pm_E _ _ _ 29 [(0, .ref (pl 203)), (1, .int (iI x)), (2, .int (iI y)), (3, .int (iI q)), (4, .int (iI i))] [.ref (pl 207)] _ _ _ _
        refine pm_e_sim pm_a120_29 rfl ?_
        show pm_E _ _ _ 31 [(0, .ref (pl 203)), (1, .int (iI x)), (2, .int (iI y)), (3, .int (iI q)), (4, .int (iI i))] [.int (iI i), .ref (pl 207)] _ _ _ _
        refine pm_e_call (T2 := pm_mm123) pm_a120_31 rfl rfl rfl rfl rfl rfl rfl rfl rfl ?_
        show pm_E none _ _ 0 [(0, .ref (pl 207)), (1, .int (iI i))] [] _ _ _ _
        have pj := pj9 (by omega)
        refine C_zat_207 hW h203 (by omega) (by omega) ?_
        show pm_E _ _ _ 34 [(0, .ref (pl 203)), (1, .int (iI x)), (2, .int (iI y)), (3, .int (iI q)), (4, .int (iI i))] [.int (iI (a 12 i))] _ _ _ _
        refine pm_e_sim pm_a120_34 rfl ?_
        show pm_E _ _ _ 36 [(0, .ref (pl 203)), (1, .int (iI x)), (2, .int (iI y)), (3, .int (iI q)), (4, .int (iI i)), (5, .int (iI (a 12 i)))] [] _ _ _ _
        refine pm_e_sim pm_a120_36 rfl ?_
        show pm_E _ _ _ 37 [(0, .ref (pl 203)), (1, .int (iI x)), (2, .int (iI y)), (3, .int (iI q)), (4, .int (iI i)), (5, .int (iI (a 12 i)))] [.ref (pl 203)] _ _ _ _
        refine pm_e_sim pm_a120_37 rfl ?_
        show pm_E _ _ _ 39 [(0, .ref (pl 203)), (1, .int (iI x)), (2, .int (iI y)), (3, .int (iI q)), (4, .int (iI i)), (5, .int (iI (a 12 i)))] [.int (iI (a 12 i)), .ref (pl 203)] _ _ _ _
        refine pm_i_callv (k := (pl 203)) (T2 := pm_mm122) pm_a120_39 rfl rfl rfl (cg_203 hW h203) ⟨Nat.le_of_ble_eq_true rfl, Nat.le_of_ble_eq_true rfl, rfl, by decide +kernel⟩ ?_
        show pm_E none _ _ 0 [(0, .ref (pl 203)), (1, .int (iI (a 12 i)))] [] _ _ _ _
        have rj := hJ.2.1.2.1 (a 12 i) (by omega) (by omega)
        have fj := hJ.2.1.2.2.1 (a 12 i) (by omega) (by omega) pj.2
        have fr := hJ.2.1.2.2.1 (rt (a 12 i)) (by omega) (by omega) fj.2.2
        refine C_zrootOf (rt := rt) hW h203 hK hJ.1 (by omega) (by omega) (fun lk1 hL1 hc1 => ?_)
        have hJ1 := JI_pop (P' := QS (a 12) (i + 1) q) (JI_lk hJ hL1) ⟨i, by omega, by omega, rfl⟩ rfl (fun j ⟨k9, k1, k2, k3⟩ => by by_cases c9 : k9 = i; exact Or.inl (by rw [k3, c9]); exact Or.inr ⟨k9, by omega, k2, k3⟩) (fun j ⟨k9, k1, k2, k3⟩ => ⟨k9, by omega, k2, k3⟩)
        show pm_E _ _ _ 42 [(0, .ref (pl 203)), (1, .int (iI x)), (2, .int (iI y)), (3, .int (iI q)), (4, .int (iI i)), (5, .int (iI (a 12 i)))] [.int (iI (rt (a 12 i)))] _ _ _ _
        refine pm_e_sim pm_a120_42 rfl ?_
        show pm_E _ _ _ 44 [(0, .ref (pl 203)), (1, .int (iI x)), (2, .int (iI y)), (3, .int (iI q)), (4, .int (iI i)), (5, .int (iI (a 12 i))), (6, .int (iI (rt (a 12 i))))] [] _ _ _ _
        refine pm_e_sim pm_a120_44 rfl ?_
        show pm_E _ _ _ 45 [(0, .ref (pl 203)), (1, .int (iI x)), (2, .int (iI y)), (3, .int (iI q)), (4, .int (iI i)), (5, .int (iI (a 12 i))), (6, .int (iI (rt (a 12 i))))] [.ref (pl 203)] _ _ _ _
        refine pm_e_sim pm_a120_45 rfl ?_
        show pm_E _ _ _ 46 [(0, .ref (pl 203)), (1, .int (iI x)), (2, .int (iI y)), (3, .int (iI q)), (4, .int (iI i)), (5, .int (iI (a 12 i))), (6, .int (iI (rt (a 12 i))))] [.ref (pl 203), .ref (pl 203)] _ _ _ _
        refine pm_i_get pm_a120_46 rfl (cg_203 hW h203) rfl ?_
        show pm_E _ _ _ 49 [(0, .ref (pl 203)), (1, .int (iI x)), (2, .int (iI y)), (3, .int (iI q)), (4, .int (iI i)), (5, .int (iI (a 12 i))), (6, .int (iI (rt (a 12 i))))] [.ref (pl 204), .ref (pl 203)] _ _ _ _
        refine pm_e_sim pm_a120_49 rfl ?_
        show pm_E _ _ _ 51 [(0, .ref (pl 203)), (1, .int (iI x)), (2, .int (iI y)), (3, .int (iI q)), (4, .int (iI i)), (5, .int (iI (a 12 i))), (6, .int (iI (rt (a 12 i))))] [.int (iI (a 12 i)), .ref (pl 204), .ref (pl 203)] _ _ _ _
        refine pm_e_call (T2 := pm_mm123) pm_a120_51 rfl rfl rfl rfl rfl rfl rfl rfl rfl ?_
        show pm_E none _ _ 0 [(0, .ref (pl 204)), (1, .int (iI (a 12 i)))] [] _ _ _ _
        refine C_zat_204 hW h203 (by omega) (by omega) ?_
        show pm_E _ _ _ 54 [(0, .ref (pl 203)), (1, .int (iI x)), (2, .int (iI y)), (3, .int (iI q)), (4, .int (iI i)), (5, .int (iI (a 12 i))), (6, .int (iI (rt (a 12 i))))] [.int (iI (a 9 (a 12 i))), .ref (pl 203)] _ _ _ _
        refine pm_e_sim pm_a120_54 rfl ?_
        show pm_E _ _ _ 55 [(0, .ref (pl 203)), (1, .int (iI x)), (2, .int (iI y)), (3, .int (iI q)), (4, .int (iI i)), (5, .int (iI (a 12 i))), (6, .int (iI (rt (a 12 i))))] [.ref (pl 203), .int (iI (a 9 (a 12 i))), .ref (pl 203)] _ _ _ _
        refine pm_i_get pm_a120_55 rfl (cg_203 hW h203) rfl ?_
        show pm_E _ _ _ 58 [(0, .ref (pl 203)), (1, .int (iI x)), (2, .int (iI y)), (3, .int (iI q)), (4, .int (iI i)), (5, .int (iI (a 12 i))), (6, .int (iI (rt (a 12 i))))] [.ref (pl 204), .int (iI (a 9 (a 12 i))), .ref (pl 203)] _ _ _ _
        refine pm_e_sim pm_a120_58 rfl ?_
        show pm_E _ _ _ 60 [(0, .ref (pl 203)), (1, .int (iI x)), (2, .int (iI y)), (3, .int (iI q)), (4, .int (iI i)), (5, .int (iI (a 12 i))), (6, .int (iI (rt (a 12 i))))] [.int (iI (rt (a 12 i))), .ref (pl 204), .int (iI (a 9 (a 12 i))), .ref (pl 203)] _ _ _ _
        refine pm_e_call (T2 := pm_mm123) pm_a120_60 rfl rfl rfl rfl rfl rfl rfl rfl rfl ?_
        show pm_E none _ _ 0 [(0, .ref (pl 204)), (1, .int (iI (rt (a 12 i))))] [] _ _ _ _
        refine C_zat_204 hW h203 (by omega) (by omega) ?_
        show pm_E _ _ _ 63 [(0, .ref (pl 203)), (1, .int (iI x)), (2, .int (iI y)), (3, .int (iI q)), (4, .int (iI i)), (5, .int (iI (a 12 i))), (6, .int (iI (rt (a 12 i))))] [.int (iI (a 9 (rt (a 12 i)))), .int (iI (a 9 (a 12 i))), .ref (pl 203)] _ _ _ _
        refine pm_e_sim pm_a120_63 rfl ?_
        show pm_E _ _ _ 64 [(0, .ref (pl 203)), (1, .int (iI x)), (2, .int (iI y)), (3, .int (iI q)), (4, .int (iI i)), (5, .int (iI (a 12 i))), (6, .int (iI (rt (a 12 i))))] [.int (iI q), .int (iI (a 9 (rt (a 12 i)))), .int (iI (a 9 (a 12 i))), .ref (pl 203)] _ _ _ _
        refine pm_i_callv (k := (pl 203)) (T2 := pm_mm121) pm_a120_64 rfl rfl rfl (cg_203 hW h203) ⟨Nat.le_of_ble_eq_true rfl, Nat.le_of_ble_eq_true rfl, rfl, by decide +kernel⟩ ?_
        show pm_E none _ _ 0 [(0, .ref (pl 203)), (1, .int (iI (a 9 (a 12 i)))), (2, .int (iI (a 9 (rt (a 12 i))))), (3, .int (iI q))] [] _ _ _ _
        refine C_zjoin (W' := W1 (a 10 (a 12 i)) (a 10 (rt (a 12 i)))) (s := s) (a := updA a 11 lk1) hW h203 hK hJ1 ⟨by omega, by omega⟩ ⟨by omega, by omega⟩ (Or.inl ⟨rfl, rfl⟩) (fun u v z => z) (fun u v z => Or.inr z) (by omega) (by show q ≤ cnr lk1 _; omega) (fun a1 rt1 q1 fr1 hJ2 hq2 hu2 hc2 => ?_)
        have f9 : a1 9 = a 9 := by rw [fr1 9 (by omega) (by omega)]; rfl
        have f10 : a1 10 = a 10 := by rw [fr1 10 (by omega) (by omega)]; rfl
        have cl1 := cnr_le (lk := a1 11) (n := (s 20).toNat)
        show pm_E _ _ _ 67 [(0, .ref (pl 203)), (1, .int (iI x)), (2, .int (iI y)), (3, .int (iI q)), (4, .int (iI i)), (5, .int (iI (a 12 i))), (6, .int (iI (rt (a 12 i))))] [.int (iI q1)] _ _ _ _
        refine pm_e_sim pm_a120_67 rfl ?_
        show pm_E _ _ _ 68 [(0, .ref (pl 203)), (1, .int (iI x)), (2, .int (iI y)), (3, .int (iI q1)), (4, .int (iI i)), (5, .int (iI (a 12 i))), (6, .int (iI (rt (a 12 i))))] [] _ _ _ _
        refine pm_e_sim pm_a120_68 rfl ?_
        show pm_E _ _ _ 69 [(0, .ref (pl 203)), (1, .int (iI x)), (2, .int (iI y)), (3, .int (iI q1)), (4, .int (iI i)), (5, .int (iI (a 12 i))), (6, .int (iI (rt (a 12 i))))] [.ref (pl 203)] _ _ _ _
        refine pm_e_sim pm_a120_69 rfl ?_
        show pm_E _ _ _ 70 [(0, .ref (pl 203)), (1, .int (iI x)), (2, .int (iI y)), (3, .int (iI q1)), (4, .int (iI i)), (5, .int (iI (a 12 i))), (6, .int (iI (rt (a 12 i))))] [.ref (pl 203), .ref (pl 203)] _ _ _ _
        refine pm_i_get pm_a120_70 rfl (cg_203 hW h203) rfl ?_
        show pm_E _ _ _ 73 [(0, .ref (pl 203)), (1, .int (iI x)), (2, .int (iI y)), (3, .int (iI q1)), (4, .int (iI i)), (5, .int (iI (a 12 i))), (6, .int (iI (rt (a 12 i))))] [.ref (pl 205), .ref (pl 203)] _ _ _ _
        refine pm_e_sim pm_a120_73 rfl ?_
        show pm_E _ _ _ 75 [(0, .ref (pl 203)), (1, .int (iI x)), (2, .int (iI y)), (3, .int (iI q1)), (4, .int (iI i)), (5, .int (iI (a 12 i))), (6, .int (iI (rt (a 12 i))))] [.int (iI (a 12 i)), .ref (pl 205), .ref (pl 203)] _ _ _ _
        refine pm_e_call (T2 := pm_mm123) pm_a120_75 rfl rfl rfl rfl rfl rfl rfl rfl rfl ?_
        show pm_E none _ _ 0 [(0, .ref (pl 205)), (1, .int (iI (a 12 i)))] [] _ _ _ _
        refine C_zat_205 hW h203 (by omega) (by omega) ?_
        show pm_E _ _ _ 78 [(0, .ref (pl 203)), (1, .int (iI x)), (2, .int (iI y)), (3, .int (iI q1)), (4, .int (iI i)), (5, .int (iI (a 12 i))), (6, .int (iI (rt (a 12 i))))] [.int (iI (a1 10 (a 12 i))), .ref (pl 203)] _ _ _ _
        refine pm_e_sim pm_a120_78 rfl ?_
        show pm_E _ _ _ 79 [(0, .ref (pl 203)), (1, .int (iI x)), (2, .int (iI y)), (3, .int (iI q1)), (4, .int (iI i)), (5, .int (iI (a 12 i))), (6, .int (iI (rt (a 12 i))))] [.ref (pl 203), .int (iI (a1 10 (a 12 i))), .ref (pl 203)] _ _ _ _
        refine pm_i_get pm_a120_79 rfl (cg_203 hW h203) rfl ?_
        show pm_E _ _ _ 82 [(0, .ref (pl 203)), (1, .int (iI x)), (2, .int (iI y)), (3, .int (iI q1)), (4, .int (iI i)), (5, .int (iI (a 12 i))), (6, .int (iI (rt (a 12 i))))] [.ref (pl 205), .int (iI (a1 10 (a 12 i))), .ref (pl 203)] _ _ _ _
        refine pm_e_sim pm_a120_82 rfl ?_
        show pm_E _ _ _ 84 [(0, .ref (pl 203)), (1, .int (iI x)), (2, .int (iI y)), (3, .int (iI q1)), (4, .int (iI i)), (5, .int (iI (a 12 i))), (6, .int (iI (rt (a 12 i))))] [.int (iI (rt (a 12 i))), .ref (pl 205), .int (iI (a1 10 (a 12 i))), .ref (pl 203)] _ _ _ _
        refine pm_e_call (T2 := pm_mm123) pm_a120_84 rfl rfl rfl rfl rfl rfl rfl rfl rfl ?_
        show pm_E none _ _ 0 [(0, .ref (pl 205)), (1, .int (iI (rt (a 12 i))))] [] _ _ _ _
        refine C_zat_205 hW h203 (by omega) (by omega) ?_
        show pm_E _ _ _ 87 [(0, .ref (pl 203)), (1, .int (iI x)), (2, .int (iI y)), (3, .int (iI q1)), (4, .int (iI i)), (5, .int (iI (a 12 i))), (6, .int (iI (rt (a 12 i))))] [.int (iI (a1 10 (rt (a 12 i)))), .int (iI (a1 10 (a 12 i))), .ref (pl 203)] _ _ _ _
        refine pm_e_sim pm_a120_87 rfl ?_
        show pm_E _ _ _ 88 [(0, .ref (pl 203)), (1, .int (iI x)), (2, .int (iI y)), (3, .int (iI q1)), (4, .int (iI i)), (5, .int (iI (a 12 i))), (6, .int (iI (rt (a 12 i))))] [.int (iI q1), .int (iI (a1 10 (rt (a 12 i)))), .int (iI (a1 10 (a 12 i))), .ref (pl 203)] _ _ _ _
        refine pm_i_callv (k := (pl 203)) (T2 := pm_mm121) pm_a120_88 rfl rfl rfl (cg_203 hW h203) ⟨Nat.le_of_ble_eq_true rfl, Nat.le_of_ble_eq_true rfl, rfl, by decide +kernel⟩ ?_
        show pm_E none _ _ 0 [(0, .ref (pl 203)), (1, .int (iI (a1 10 (a 12 i)))), (2, .int (iI (a1 10 (rt (a 12 i))))), (3, .int (iI q1))] [] _ _ _ _
        replace hJ2 : JI (s 20) (a1 9) (a1 10) (a1 11) rt1 (W1 (a 10 (a 12 i)) (a 10 (rt (a 12 i)))) (JQ (QS (a 12) (i + 1) q) (a1 12) q q1) X := by rw [f9, f10]; exact hJ2
        rw [f10]
        refine C_zjoin (W' := noW) hW h203 hK hJ2 ⟨by omega, by omega⟩ ⟨by omega, by omega⟩ ⟨rfl, rfl⟩ (fun u v z => Or.inl z) (fun u v z => z.elim) (by omega) hc2 (fun a2 rt2 q2 fr2 hJ3 hq3 hu3 hc3 => ?_)
        show pm_E _ _ _ 91 [(0, .ref (pl 203)), (1, .int (iI x)), (2, .int (iI y)), (3, .int (iI q1)), (4, .int (iI i)), (5, .int (iI (a 12 i))), (6, .int (iI (rt (a 12 i))))] [.int (iI q2)] _ _ _ _
        refine pm_e_sim pm_a120_91 rfl ?_
        show pm_E _ _ _ 92 [(0, .ref (pl 203)), (1, .int (iI x)), (2, .int (iI y)), (3, .int (iI q2)), (4, .int (iI i)), (5, .int (iI (a 12 i))), (6, .int (iI (rt (a 12 i))))] [] _ _ _ _
        refine pm_e_inc (y := iI (i + 1)) pm_a120_92 rfl (iI_add _ _) (by decide +kernel) rfl ?_
        show pm_E _ _ _ 95 [(0, .ref (pl 203)), (1, .int (iI x)), (2, .int (iI y)), (3, .int (iI q2)), (4, .int (iI (i + 1))), (5, .int (iI (a 12 i))), (6, .int (iI (rt (a 12 i))))] [] _ _ _ _
        refine pm_e_goto pm_a120_95 rfl ?_
        show pm_E _ _ _ 11 [(0, .ref (pl 203)), (1, .int (iI x)), (2, .int (iI y)), (3, .int (iI q2)), (4, .int (iI (i + 1))), (5, .int (iI (a 12 i))), (6, .int (iI (rt (a 12 i))))] [] _ _ _ _
        show pm_E _ _ _ 11 ([(0, .ref (pl 203)), (1, .int (iI x)), (2, .int (iI y)), (3, .int (iI q2)), (4, .int (iI (i + 1)))] ++ [(5, .int (iI (a 12 i))), (6, .int (iI (rt (a 12 i))))]) [] _ _ _ _
        refine pm_e_more [(5, .int (iI (a 12 i))), (6, .int (iI (rt (a 12 i))))] (show ([0, 1, 2, 3, 4, 5, 6] : List Nat).Nodup from by decide) ?_
        have g9 : a2 9 = a1 9 := fr2 9 (by omega) (by omega)
        have g10 : a2 10 = a1 10 := fr2 10 (by omega) (by omega)
        have cl2 := cnr_le (lk := a2 11) (n := (s 20).toNat)
        refine ih (i + 1) q2 a2 (by omega) (by omega) (fun j h1 h2 => by rw [fr2 j h1 h2, fr1 j h1 h2]; simp [updA, h1, fA j h1 h2]) ⟨rt2, ?_⟩ hc3 k (by omega)
        rw [g9, g10]
        refine JI_P hJ3 (fun j z => ?_) (fun j z => ?_)
        · rcases z with (⟨k9, k1, k2, k3⟩ | ⟨k9, k1, k2, k3⟩) | ⟨k9, k1, k2, k3⟩
          · exact ⟨k9, k1, by omega, by rw [k3, hu3 k9 (by omega) (by omega), hu2 k9 (by omega) (by omega)]; rfl⟩
          · exact ⟨k9, by omega, by omega, by rw [k3, hu3 k9 (by omega) (by omega)]⟩
          · exact ⟨k9, by omega, by omega, k3⟩
        · obtain ⟨k9, k1, k2, k3⟩ := z
          by_cases c1 : k9 < q
          · exact Or.inl (Or.inl ⟨k9, k1, c1, by rw [k3, hu3 k9 (by omega) (by omega), hu2 k9 (by omega) (by omega)]; rfl⟩)
          · by_cases c2 : k9 < q1
            · exact Or.inl (Or.inr ⟨k9, by omega, c2, by rw [k3, hu3 k9 (by omega) (by omega)]⟩)
            · exact Or.inr ⟨k9, by omega, k2, k3⟩
set_option maxHeartbeats 4000000 in
set_option maxRecDepth 100000 in
theorem C_zjoinAll {d n : Nat} {kd pl : Nat → Nat} {s : Nat → Int} {a : Nat → Int → Int} {c : Nat → cdt} {M : List va_E} {Q : Option Value → List va_E → Nat → Nat → Prop} {x y : Int} {rt : Int → Int} (hW : wf n kd pl) (h203 : al n kd pl 203) (hK : s 20 ≤ 2800) (hG : GC (s 20) (a 9) (a 10) (a 11) rt) (hx : 0 ≤ x ∧ x < s 20) (hy : 0 ≤ y ∧ y < s 20) (k : ∀ a' rt', (∀ j, j ≠ 11 → j ≠ 12 → a' j = a j) → GC (s 20) (a 9) (a 10) (a' 11) rt' → (∀ t, SOL (s 20) (-1) (a 9) (a 10) rt' t ↔ (SOL (s 20) (-1) (a 9) (a 10) rt t ∧ t x = t y)) → Q none (ch n kd pl s a' c M) 0 0) : pm_E none (d + 3) pm_mm120 0 [(0, .ref (pl 203)), (1, .int (iI x)), (2, .int (iI y))] [] (ch n kd pl s a c M) 0 0 Q := by
  refine pm_e_sim pm_a120_0 rfl ?_
  show pm_E _ _ _ 1 [(0, .ref (pl 203)), (1, .int (iI x)), (2, .int (iI y))] [.ref (pl 203)] _ _ _ _
  refine pm_e_sim pm_a120_1 rfl ?_
  show pm_E _ _ _ 2 [(0, .ref (pl 203)), (1, .int (iI x)), (2, .int (iI y))] [.int (iI x), .ref (pl 203)] _ _ _ _
  refine pm_e_sim pm_a120_2 rfl ?_
  show pm_E _ _ _ 3 [(0, .ref (pl 203)), (1, .int (iI x)), (2, .int (iI y))] [.int (iI y), .int (iI x), .ref (pl 203)] _ _ _ _
  refine pm_e_sim pm_a120_3 rfl ?_
  refine pm_e_top (y := iI 0) (by decide +kernel) ?_
  show pm_E _ _ _ 4 [(0, .ref (pl 203)), (1, .int (iI x)), (2, .int (iI y))] [.int (iI 0), .int (iI y), .int (iI x), .ref (pl 203)] _ _ _ _
  refine pm_i_callv (k := (pl 203)) (T2 := pm_mm121) pm_a120_4 rfl rfl rfl (cg_203 hW h203) ⟨Nat.le_of_ble_eq_true rfl, Nat.le_of_ble_eq_true rfl, rfl, by decide +kernel⟩ ?_
  show pm_E none _ _ 0 [(0, .ref (pl 203)), (1, .int (iI x)), (2, .int (iI y)), (3, .int (iI 0))] [] _ _ _ _
  have cl0 := cnr_le (lk := a 11) (n := (s 20).toNat)
  refine C_zjoin (W' := noW) hW h203 hK (JI_beg (x := x) (y := y) hG) hx hy ⟨rfl, rfl⟩ (fun u v z => Or.inl z) (fun u v z => z.elim) (by omega) (by omega) (fun a1 rt1 q1 fr1 hJ1 hq1 hu1 hc1 => ?_)
  have f9 : a1 9 = a 9 := fr1 9 (by omega) (by omega)
  have f10 : a1 10 = a 10 := fr1 10 (by omega) (by omega)
  show pm_E _ _ _ 7 [(0, .ref (pl 203)), (1, .int (iI x)), (2, .int (iI y))] [.int (iI q1)] _ _ _ _
  refine pm_e_sim pm_a120_7 rfl ?_
  show pm_E _ _ _ 8 [(0, .ref (pl 203)), (1, .int (iI x)), (2, .int (iI y)), (3, .int (iI q1))] [] _ _ _ _
  refine pm_e_sim pm_a120_8 rfl ?_
  refine pm_e_top (y := iI 0) (by decide +kernel) ?_
  show pm_E _ _ _ 9 [(0, .ref (pl 203)), (1, .int (iI x)), (2, .int (iI y)), (3, .int (iI q1))] [.int (iI 0)] _ _ _ _
  refine pm_e_sim pm_a120_9 rfl ?_
  show pm_E _ _ _ 11 [(0, .ref (pl 203)), (1, .int (iI x)), (2, .int (iI y)), (3, .int (iI q1)), (4, .int (iI 0))] [] _ _ _ _
  refine C_zjoinAll_l (a0 := a1) (X := fun t => SOL (s 20) (-1) (a 9) (a 10) rt t ∧ t x = t y) hW h203 hK (by omega) 2802 0 q1 a1 (by omega) (by omega) (fun j _ _ => rfl) ⟨rt1, ?_⟩ hc1 (fun a2 rt2 fr2 hJ2 => ?_) (by omega)
  · rw [f9, f10]; exact JI_P hJ1 (fun j z => z.elim (fun z => z.elim) (fun ⟨k9, k1, k2, k3⟩ => ⟨k9, by omega, k2, k3⟩)) (fun j ⟨k9, k1, k2, k3⟩ => Or.inr ⟨k9, by omega, k2, k3⟩)
  · rw [fr2 9 (by omega) (by omega), fr2 10 (by omega) (by omega), f9, f10] at hJ2
    obtain ⟨g1, g2⟩ := JI_end hJ2
    exact k a2 rt2 (fun j h1 h2 => by rw [fr2 j h1 h2, fr1 j h1 h2]) g1 g2
