/-! THE CLASS: Abstracter: unholdBody, putAbstracted -/
set_option maxHeartbeats 4000000 in
set_option maxRecDepth 100000 in
theorem C_unh_x {d n : Nat} {kd pl : Nat → Nat} {s : Nat → Int} {a : Nat → Int → Int} {c : Nat → cdt} {M : List va_E} {Q : Option Value → List va_E → Nat → Nat → Prop} {q p : Int} {x : cdt} (hW : wf n kd pl) (h200 : al n kd pl 200) (hq : in32 q) (hp : 0 ≤ p ∧ p ≤ 1500) (hx : okx (rm 2) x) (ho : x.2.1 ≠ 0 ∨ q ≤ 0) (k : Q none (ch n kd pl (updS s 19 (p)) a (updC c 2 x) M) 0 0) : pm_E none (d + 1) pm_mm97 9 [(0, .ref (pl 200)), (1, .int (iI q))] [] (ch n kd pl (updS s 19 (p)) a (updC c 2 x) M) 0 0 Q := by
  obtain ⟨_, _⟩ := hq
  obtain ⟨o1, o2, o3, o4⟩ := id hx
  refine pm_e_sim pm_a97_9 rfl ?_
  show pm_E _ _ _ 10 [(0, .ref (pl 200)), (1, .int (iI q))] [.int (iI q)] _ _ _ _
  refine pm_i_le (t := 75) pm_a97_10 rfl ⟨by omega, by omega⟩ (fun h_1 => ?_) (fun h_1 => ?_)
  · skip
    show pm_E _ _ _ 75 [(0, .ref (pl 200)), (1, .int (iI q))] [] _ _ _ _
    refine pm_e_ret pm_a97_75 rfl rfl rfl rfl rfl rfl rfl rfl ?_
    exact k
  · skip
    show pm_E _ _ _ 13 [(0, .ref (pl 200)), (1, .int (iI q))] [] _ _ _ _
    refine pm_e_sim pm_a97_13 rfl ?_
    show pm_E _ _ _ 14 [(0, .ref (pl 200)), (1, .int (iI q))] [.ref (pl 200)] _ _ _ _
    refine pm_i_get pm_a97_14 rfl (cg_200 hW h200) rfl ?_
    show pm_E _ _ _ 17 [(0, .ref (pl 200)), (1, .int (iI q))] [.int (iI p)] _ _ _ _
    refine pm_e_sim pm_a97_17 rfl ?_
    refine pm_e_top (y := iI 1500) (by decide +kernel) ?_
    show pm_E _ _ _ 20 [(0, .ref (pl 200)), (1, .int (iI q))] [.int (iI 1500), .int (iI p)] _ _ _ _
    refine pm_c_ge (t := 75) pm_a97_20 rfl ⟨by omega, by omega⟩ ⟨by omega, by omega⟩ (fun h_2 => ?_) (fun h_2 => ?_)
    · skip
      show pm_E _ _ _ 75 [(0, .ref (pl 200)), (1, .int (iI q))] [] _ _ _ _
      refine pm_e_ret pm_a97_75 rfl rfl rfl rfl rfl rfl rfl rfl ?_
      exact k
    · skip
      show pm_E _ _ _ 23 [(0, .ref (pl 200)), (1, .int (iI q))] [] _ _ _ _
      refine pm_e_sim pm_a97_23 rfl ?_
      show pm_E _ _ _ 24 [(0, .ref (pl 200)), (1, .int (iI q))] [.ref (pl 200)] _ _ _ _
      refine pm_i_get pm_a97_24 rfl (cg_200 hW h200) rfl ?_
      show pm_E _ _ _ 27 [(0, .ref (pl 200)), (1, .int (iI q))] [.ref (pl (60 + 2 * 2))] _ _ _ _
      refine pm_i_get pm_a97_27 rfl (cg_o (cj2 hW h200)) rfl ?_
      refine pm_e_top (y := iI ((x).2.1)) (congrArg (fun z : cdt => iI z.2.1) updC_at) ?_
      show pm_E _ _ _ 30 [(0, .ref (pl 200)), (1, .int (iI q))] [.int (iI ((x).2.1))] _ _ _ _
      refine pm_i_ne (t := 75) pm_a97_30 rfl ⟨by omega, by omega⟩ (fun h_3 => ?_) (fun h_3 => ?_)
      · skip
        show pm_E _ _ _ 75 [(0, .ref (pl 200)), (1, .int (iI q))] [] _ _ _ _
        refine pm_e_ret pm_a97_75 rfl rfl rfl rfl rfl rfl rfl rfl ?_
        exact k
      · skip
        exfalso; omega
set_option maxHeartbeats 4000000 in
set_option maxRecDepth 100000 in
theorem C_unh_1 {d n : Nat} {kd pl : Nat → Nat} {s : Nat → Int} {a : Nat → Int → Int} {c : Nat → cdt} {M : List va_E} {Q : Option Value → List va_E → Nat → Nat → Prop} {q p : Int} {x : cdt} {l : List Int} (hW : wf n kd pl) (h200 : al n kd pl 200) (hin : ∀ i, in32 (a 7 i)) (hq : 0 ≤ q ∧ q ≤ 100000) (hp : 0 ≤ p ∧ p < 1500) (hl : md x (rm 2) l) (ho : x.2.1 = 0) (k0 : a 7 p = 0 → ∀ y, md y (rm 2) (l ++ [a 7 p]) → pm_E none (d + 1) pm_mm97 9 [(0, .ref (pl 200)), (1, .int (iI (q + 2)))] [] (ch n kd pl (updS s 19 (p + 1)) a (updC c 2 y) M) 0 0 Q) (k2 : a 7 p ≠ 0 → ∀ y, md y (rm 2) (l ++ [a 7 p]) → pm_E none (d + 1) pm_mm97 9 [(0, .ref (pl 200)), (1, .int (iI q))] [] (ch n kd pl (updS s 19 (p + 1)) a (updC c 2 y) M) 0 0 Q) : pm_E none (d + 1) pm_mm97 9 [(0, .ref (pl 200)), (1, .int (iI (q + 1)))] [] (ch n kd pl (updS s 19 (p)) a (updC c 2 x) M) 0 0 Q := by
  obtain ⟨o1, o2, o3, o4⟩ := id hl.1
  refine pm_e_sim pm_a97_9 rfl ?_
  show pm_E _ _ _ 10 [(0, .ref (pl 200)), (1, .int (iI (q + 1)))] [.int (iI (q + 1))] _ _ _ _
  refine pm_i_le (t := 75) pm_a97_10 rfl ⟨by omega, by omega⟩ (fun h_1 => ?_) (fun h_1 => ?_)
  · skip
    exfalso; omega
  · skip
    show pm_E _ _ _ 13 [(0, .ref (pl 200)), (1, .int (iI (q + 1)))] [] _ _ _ _
    refine pm_e_sim pm_a97_13 rfl ?_
    show pm_E _ _ _ 14 [(0, .ref (pl 200)), (1, .int (iI (q + 1)))] [.ref (pl 200)] _ _ _ _
    refine pm_i_get pm_a97_14 rfl (cg_200 hW h200) rfl ?_
    show pm_E _ _ _ 17 [(0, .ref (pl 200)), (1, .int (iI (q + 1)))] [.int (iI p)] _ _ _ _
    refine pm_e_sim pm_a97_17 rfl ?_
    refine pm_e_top (y := iI 1500) (by decide +kernel) ?_
    show pm_E _ _ _ 20 [(0, .ref (pl 200)), (1, .int (iI (q + 1)))] [.int (iI 1500), .int (iI p)] _ _ _ _
    refine pm_c_ge (t := 75) pm_a97_20 rfl ⟨by omega, by omega⟩ ⟨by omega, by omega⟩ (fun h_2 => ?_) (fun h_2 => ?_)
    · skip
      exfalso; omega
    · skip
      show pm_E _ _ _ 23 [(0, .ref (pl 200)), (1, .int (iI (q + 1)))] [] _ _ _ _
      refine pm_e_sim pm_a97_23 rfl ?_
      show pm_E _ _ _ 24 [(0, .ref (pl 200)), (1, .int (iI (q + 1)))] [.ref (pl 200)] _ _ _ _
      refine pm_i_get pm_a97_24 rfl (cg_200 hW h200) rfl ?_
      show pm_E _ _ _ 27 [(0, .ref (pl 200)), (1, .int (iI (q + 1)))] [.ref (pl (60 + 2 * 2))] _ _ _ _
      refine pm_i_get pm_a97_27 rfl (cg_o (cj2 hW h200)) rfl ?_
      refine pm_e_top (y := iI ((x).2.1)) (congrArg (fun z : cdt => iI z.2.1) updC_at) ?_
      show pm_E _ _ _ 30 [(0, .ref (pl 200)), (1, .int (iI (q + 1)))] [.int (iI ((x).2.1))] _ _ _ _
      refine pm_i_ne (t := 75) pm_a97_30 rfl ⟨by omega, by omega⟩ (fun h_3 => ?_) (fun h_3 => ?_)
      · skip
        exfalso; omega
      · skip
        show pm_E _ _ _ 33 [(0, .ref (pl 200)), (1, .int (iI (q + 1)))] [] _ _ _ _
        refine pm_e_sim pm_a97_33 rfl ?_
        show pm_E _ _ _ 34 [(0, .ref (pl 200)), (1, .int (iI (q + 1)))] [.ref (pl 200)] _ _ _ _
        refine pm_e_sim pm_a97_34 rfl ?_
        show pm_E _ _ _ 35 [(0, .ref (pl 200)), (1, .int (iI (q + 1)))] [.ref (pl 200), .ref (pl 200)] _ _ _ _
        refine pm_i_get pm_a97_35 rfl (cg_200 hW h200) rfl ?_
        show pm_E _ _ _ 38 [(0, .ref (pl 200)), (1, .int (iI (q + 1)))] [.int (iI p), .ref (pl 200)] _ _ _ _
        refine pm_i_callv (k := (pl 200)) (T2 := pm_mm98) pm_a97_38 rfl rfl rfl (cg_200 hW h200) ⟨Nat.le_of_ble_eq_true rfl, Nat.le_of_ble_eq_true rfl, rfl, by decide +kernel⟩ ?_
        show pm_E none _ _ 0 [(0, .ref (pl 200)), (1, .int (iI p))] [] _ _ _ _
        refine C_heldAt hW h200 (by omega) (by omega) ?_
        obtain ⟨_, _⟩ := hin p
        show pm_E _ _ _ 41 [(0, .ref (pl 200)), (1, .int (iI (q + 1)))] [.int (iI (a 7 p))] _ _ _ _
        refine pm_e_sim pm_a97_41 rfl ?_
        show pm_E _ _ _ 42 [(0, .ref (pl 200)), (1, .int (iI (q + 1))), (2, .int (iI (a 7 p)))] [] _ _ _ _
        refine pm_e_sim pm_a97_42 rfl ?_
        show pm_E _ _ _ 43 [(0, .ref (pl 200)), (1, .int (iI (q + 1))), (2, .int (iI (a 7 p)))] [.int (iI (q + 1))] _ _ _ _
        refine pm_e_sim pm_a97_43 rfl ?_
        show pm_E _ _ _ 44 [(0, .ref (pl 200)), (1, .int (iI (q + 1))), (2, .int (iI (a 7 p)))] [.int (iI (a 7 p)), .int (iI (q + 1))] _ _ _ _
        refine pm_i_ne (t := 51) pm_a97_44 rfl ⟨by omega, by omega⟩ (fun h_4 => ?_) (fun h_4 => ?_)
        · skip
          show pm_E _ _ _ 51 [(0, .ref (pl 200)), (1, .int (iI (q + 1))), (2, .int (iI (a 7 p)))] [.int (iI (q + 1))] _ _ _ _
          refine pm_e_sim pm_a97_51 rfl ?_
          refine pm_e_top (y := iI (-1)) (by decide +kernel) ?_
          show pm_E _ _ _ 52 [(0, .ref (pl 200)), (1, .int (iI (q + 1))), (2, .int (iI (a 7 p)))] [.int (iI (-1)), .int (iI (q + 1))] _ _ _ _
          refine pm_e_sim pm_a97_52 rfl ?_
          refine pm_e_top (y := iI (q + 1 + (-1))) (iI_add _ _) ?_
          show pm_E _ _ _ 53 [(0, .ref (pl 200)), (1, .int (iI (q + 1))), (2, .int (iI (a 7 p)))] [.int (iI (q + 1 + (-1)))] _ _ _ _
          refine pm_e_sim pm_a97_53 rfl ?_
          show pm_E _ _ _ 54 [(0, .ref (pl 200)), (1, .int (iI (q + 1 + (-1)))), (2, .int (iI (a 7 p)))] [] _ _ _ _
          refine pm_e_sim pm_a97_54 rfl ?_
          show pm_E _ _ _ 55 [(0, .ref (pl 200)), (1, .int (iI (q + 1 + (-1)))), (2, .int (iI (a 7 p)))] [.ref (pl 200)] _ _ _ _
          refine pm_i_get pm_a97_55 rfl (cg_200 hW h200) rfl ?_
          show pm_E _ _ _ 58 [(0, .ref (pl 200)), (1, .int (iI (q + 1 + (-1)))), (2, .int (iI (a 7 p)))] [.ref (pl (60 + 2 * 2))] _ _ _ _
          refine pm_e_sim pm_a97_58 rfl ?_
          show pm_E _ _ _ 59 [(0, .ref (pl 200)), (1, .int (iI (q + 1 + (-1)))), (2, .int (iI (a 7 p)))] [.int (iI (a 7 p)), .ref (pl (60 + 2 * 2))] _ _ _ _
          refine pm_i_callv (k := (pl (60 + 2 * 2))) (T2 := pm_mm40) pm_a97_59 rfl rfl rfl (cg_o (cj2 hW h200)) ⟨Nat.le_of_ble_eq_true rfl, Nat.le_of_ble_eq_true rfl, rfl, by decide +kernel⟩ ?_
          show pm_E none _ _ 0 [(0, .ref (pl (60 + 2 * 2))), (1, .int (iI (a 7 p)))] [] _ _ _ _
          refine C_put hW (cj2 hW h200) (l := l) (by rw [updC_at]; exact hl) ⟨by omega, by omega⟩ (fun y hy => ?_)
          rw [updC_s]
          show pm_E _ _ _ 62 [(0, .ref (pl 200)), (1, .int (iI (q + 1 + (-1)))), (2, .int (iI (a 7 p)))] [] _ _ _ _
          refine pm_e_sim pm_a97_62 rfl ?_
          show pm_E _ _ _ 63 [(0, .ref (pl 200)), (1, .int (iI (q + 1 + (-1)))), (2, .int (iI (a 7 p)))] [.ref (pl 200)] _ _ _ _
          refine pm_e_sim pm_a97_63 rfl ?_
          show pm_E _ _ _ 64 [(0, .ref (pl 200)), (1, .int (iI (q + 1 + (-1)))), (2, .int (iI (a 7 p)))] [.ref (pl 200), .ref (pl 200)] _ _ _ _
          refine pm_i_get pm_a97_64 rfl (cg_200 hW h200) rfl ?_
          show pm_E _ _ _ 67 [(0, .ref (pl 200)), (1, .int (iI (q + 1 + (-1)))), (2, .int (iI (a 7 p)))] [.int (iI p), .ref (pl 200)] _ _ _ _
          refine pm_e_sim pm_a97_67 rfl ?_
          refine pm_e_top (y := iI 1) (by decide +kernel) ?_
          show pm_E _ _ _ 68 [(0, .ref (pl 200)), (1, .int (iI (q + 1 + (-1)))), (2, .int (iI (a 7 p)))] [.int (iI 1), .int (iI p), .ref (pl 200)] _ _ _ _
          refine pm_e_sim pm_a97_68 rfl ?_
          refine pm_e_top (y := iI (p + 1)) (iI_add _ _) ?_
          show pm_E _ _ _ 69 [(0, .ref (pl 200)), (1, .int (iI (q + 1 + (-1)))), (2, .int (iI (a 7 p)))] [.int (iI (p + 1)), .ref (pl 200)] _ _ _ _
          refine pm_i_put pm_a97_69 rfl (cg_200 hW h200) rfl (Nat.le_of_ble_eq_true rfl) (Or.inl rfl) (cw_19 hW h200 (p + 1)) ?_
          show pm_E _ _ _ 72 [(0, .ref (pl 200)), (1, .int (iI (q + 1 + (-1)))), (2, .int (iI (a 7 p)))] [] _ _ _ _
          refine pm_e_goto pm_a97_72 rfl ?_
          show pm_E _ _ _ 9 [(0, .ref (pl 200)), (1, .int (iI (q + 1 + (-1)))), (2, .int (iI (a 7 p)))] [] _ _ _ _
          rw [updS_s]
          show pm_E _ _ _ 9 ([(0, .ref (pl 200)), (1, .int (iI (q + 1 + (-1))))] ++ [(2, .int (iI (a 7 p)))]) [] _ _ _ _
          refine pm_e_more [(2, .int (iI (a 7 p)))] (show ([0, 1, 2] : List Nat).Nodup from by decide) ?_
          have e9 : q + 1 + (-1) = q := by omega
          rw [e9]
          exact k2 (by omega) y hy
        · skip
          show pm_E _ _ _ 47 [(0, .ref (pl 200)), (1, .int (iI (q + 1))), (2, .int (iI (a 7 p)))] [.int (iI (q + 1))] _ _ _ _
          refine pm_e_sim pm_a97_47 rfl ?_
          refine pm_e_top (y := iI 1) (by decide +kernel) ?_
          show pm_E _ _ _ 48 [(0, .ref (pl 200)), (1, .int (iI (q + 1))), (2, .int (iI (a 7 p)))] [.int (iI 1), .int (iI (q + 1))] _ _ _ _
          refine pm_e_goto pm_a97_48 rfl ?_
          show pm_E _ _ _ 52 [(0, .ref (pl 200)), (1, .int (iI (q + 1))), (2, .int (iI (a 7 p)))] [.int (iI 1), .int (iI (q + 1))] _ _ _ _
          refine pm_e_sim pm_a97_52 rfl ?_
          refine pm_e_top (y := iI (q + 1 + 1)) (iI_add _ _) ?_
          show pm_E _ _ _ 53 [(0, .ref (pl 200)), (1, .int (iI (q + 1))), (2, .int (iI (a 7 p)))] [.int (iI (q + 1 + 1))] _ _ _ _
          refine pm_e_sim pm_a97_53 rfl ?_
          show pm_E _ _ _ 54 [(0, .ref (pl 200)), (1, .int (iI (q + 1 + 1))), (2, .int (iI (a 7 p)))] [] _ _ _ _
          refine pm_e_sim pm_a97_54 rfl ?_
          show pm_E _ _ _ 55 [(0, .ref (pl 200)), (1, .int (iI (q + 1 + 1))), (2, .int (iI (a 7 p)))] [.ref (pl 200)] _ _ _ _
          refine pm_i_get pm_a97_55 rfl (cg_200 hW h200) rfl ?_
          show pm_E _ _ _ 58 [(0, .ref (pl 200)), (1, .int (iI (q + 1 + 1))), (2, .int (iI (a 7 p)))] [.ref (pl (60 + 2 * 2))] _ _ _ _
          refine pm_e_sim pm_a97_58 rfl ?_
          show pm_E _ _ _ 59 [(0, .ref (pl 200)), (1, .int (iI (q + 1 + 1))), (2, .int (iI (a 7 p)))] [.int (iI (a 7 p)), .ref (pl (60 + 2 * 2))] _ _ _ _
          refine pm_i_callv (k := (pl (60 + 2 * 2))) (T2 := pm_mm40) pm_a97_59 rfl rfl rfl (cg_o (cj2 hW h200)) ⟨Nat.le_of_ble_eq_true rfl, Nat.le_of_ble_eq_true rfl, rfl, by decide +kernel⟩ ?_
          show pm_E none _ _ 0 [(0, .ref (pl (60 + 2 * 2))), (1, .int (iI (a 7 p)))] [] _ _ _ _
          refine C_put hW (cj2 hW h200) (l := l) (by rw [updC_at]; exact hl) ⟨by omega, by omega⟩ (fun y hy => ?_)
          rw [updC_s]
          show pm_E _ _ _ 62 [(0, .ref (pl 200)), (1, .int (iI (q + 1 + 1))), (2, .int (iI (a 7 p)))] [] _ _ _ _
          refine pm_e_sim pm_a97_62 rfl ?_
          show pm_E _ _ _ 63 [(0, .ref (pl 200)), (1, .int (iI (q + 1 + 1))), (2, .int (iI (a 7 p)))] [.ref (pl 200)] _ _ _ _
          refine pm_e_sim pm_a97_63 rfl ?_
          show pm_E _ _ _ 64 [(0, .ref (pl 200)), (1, .int (iI (q + 1 + 1))), (2, .int (iI (a 7 p)))] [.ref (pl 200), .ref (pl 200)] _ _ _ _
          refine pm_i_get pm_a97_64 rfl (cg_200 hW h200) rfl ?_
          show pm_E _ _ _ 67 [(0, .ref (pl 200)), (1, .int (iI (q + 1 + 1))), (2, .int (iI (a 7 p)))] [.int (iI p), .ref (pl 200)] _ _ _ _
          refine pm_e_sim pm_a97_67 rfl ?_
          refine pm_e_top (y := iI 1) (by decide +kernel) ?_
          show pm_E _ _ _ 68 [(0, .ref (pl 200)), (1, .int (iI (q + 1 + 1))), (2, .int (iI (a 7 p)))] [.int (iI 1), .int (iI p), .ref (pl 200)] _ _ _ _
          refine pm_e_sim pm_a97_68 rfl ?_
          refine pm_e_top (y := iI (p + 1)) (iI_add _ _) ?_
          show pm_E _ _ _ 69 [(0, .ref (pl 200)), (1, .int (iI (q + 1 + 1))), (2, .int (iI (a 7 p)))] [.int (iI (p + 1)), .ref (pl 200)] _ _ _ _
          refine pm_i_put pm_a97_69 rfl (cg_200 hW h200) rfl (Nat.le_of_ble_eq_true rfl) (Or.inl rfl) (cw_19 hW h200 (p + 1)) ?_
          show pm_E _ _ _ 72 [(0, .ref (pl 200)), (1, .int (iI (q + 1 + 1))), (2, .int (iI (a 7 p)))] [] _ _ _ _
          refine pm_e_goto pm_a97_72 rfl ?_
          show pm_E _ _ _ 9 [(0, .ref (pl 200)), (1, .int (iI (q + 1 + 1))), (2, .int (iI (a 7 p)))] [] _ _ _ _
          rw [updS_s]
          show pm_E _ _ _ 9 ([(0, .ref (pl 200)), (1, .int (iI (q + 1 + 1)))] ++ [(2, .int (iI (a 7 p)))]) [] _ _ _ _
          refine pm_e_more [(2, .int (iI (a 7 p)))] (show ([0, 1, 2] : List Nat).Nodup from by decide) ?_
          have e9 : q + 1 + 1 = q + 2 := by omega
          rw [e9]
          exact k0 (by omega) y hy
theorem C_unh_l {d n : Nat} {kd pl : Nat → Nat} {s : Nat → Int} {a : Nat → Int → Int} {c : Nat → cdt} {M : List va_E} {Q : Option Value → List va_E → Nat → Nat → Prop} (hW : wf n kd pl) (h200 : al n kd pl 200) (hin : ∀ i, in32 (a 7 i)) : ∀ (f : Nat) {k p e : Int}, tm (a 7) f k p e → (∀ j, p ≤ j → j < e → a 7 j ≠ 1) → 0 ≤ p → e ≤ 1500 → ∀ (q : Int) (l : List Int) (x : cdt), 0 ≤ q → q + (e - p) ≤ 50000 → md x (rm 2) l → x.2.1 = 0 → (∀ x', md x' (rm 2) (l ++ rg (a 7) (e - p).toNat p) → x'.2.1 = 0 → pm_E none (d + 1) pm_mm97 9 [(0, .ref (pl 200)), (1, .int (iI q))] [] (ch n kd pl (updS s 19 (e)) a (updC c 2 x') M) 0 0 Q) → (∀ x' i, md x' (rm 2) (l ++ rg (a 7) (e - p).toNat p) → x'.2.1 ≠ 0 → 0 ≤ i → i ≤ 1500 → Q none (ch n kd pl (updS s 19 (i)) a (updC c 2 x') M) 0 0) → pm_E none (d + 1) pm_mm97 9 [(0, .ref (pl 200)), (1, .int (iI (q + 1)))] [] (ch n kd pl (updS s 19 (p)) a (updC c 2 x) M) 0 0 Q := by
  intro f
  induction f with
  | zero => intro k p e t; exact t.elim
  | succ f ih =>
    intro k p e t h1 hp he q l x hq hb hl ho kc ko
    have lt := tm_lt t
    have hcons := rg_cons (g := a 7) lt
    rcases id t with ⟨h0, m, t1, t2⟩ | ⟨h0, t1⟩ | ⟨h0, h2, h3⟩
    · have l1 := tm_lt t1; have l2 := tm_lt t2
      rw [hcons, rg_cut (g := a 7) (p := p + 1) (m := m) (e := e) (by omega) (by omega), List.append_cons, ← List.append_assoc] at kc ko
      refine C_unh_1 hW h200 hin ⟨hq, by omega⟩ ⟨hp, by omega⟩ hl ho (fun _ y hy => ?_) (fun h => absurd h0 h)
      by_cases hov : y.2.1 = 0
      · have := ih t1 (fun j a b => h1 j (by omega) (by omega)) (by omega) (by omega) (q + 1) _ y (by omega) (by omega) hy hov (fun x1 hx1 ho1 => ih t2 (fun j a b => h1 j (by omega) (by omega)) (by omega) (by omega) q _ x1 hq (by omega) hx1 ho1 kc ko) (fun x1 i hx1 ho1 i0 i1 => ko x1 i (md_over hx1 ho1) ho1 i0 i1)
        rw [show q + 1 + 1 = q + 2 by omega] at this
        exact this
      · refine C_unh_x hW h200 ⟨by omega, by omega⟩ ⟨by omega, by omega⟩ hy.1 (Or.inl hov) (ko y (p + 1) ?_ hov (by omega) (by omega))
        rw [List.append_assoc]
        exact md_over hy hov
    · exact absurd h0 (h1 p (by omega) lt)
    · subst h3
      rw [hcons, show (p + 1 - (p + 1)).toNat = 0 by omega] at kc ko
      refine C_unh_1 hW h200 hin ⟨hq, by omega⟩ ⟨hp, by omega⟩ hl ho (fun h => by omega) (fun _ y hy => ?_)
      by_cases hov : y.2.1 = 0
      · exact kc y hy hov
      · exact C_unh_x hW h200 ⟨by omega, by omega⟩ ⟨by omega, by omega⟩ hy.1 (Or.inl hov) (ko y (p + 1) hy hov (by omega) (by omega))
set_option maxHeartbeats 4000000 in
set_option maxRecDepth 100000 in
theorem C_unholdBody {d n : Nat} {kd pl : Nat → Nat} {s : Nat → Int} {a : Nat → Int → Int} {c : Nat → cdt} {M : List va_E} {Q : Option Value → List va_E → Nat → Nat → Prop} {f : Nat} {kk e : Int} (hW : wf n kd pl) (h200 : al n kd pl 200) (hin : ∀ i, in32 (a 7 i)) (ho2 : okx (rm 2) (c 2)) (ht : tm (a 7) f kk (s 19) e) (hn : ∀ j, s 19 ≤ j → j < e → a 7 j ≠ 1) (h0 : 0 ≤ s 19) (he : e ≤ 1500) (k : ∀ x i, md x (rm 2) (rg (a 7) (e - s 19).toNat (s 19)) → 0 ≤ i → i ≤ 1500 → (x.2.1 = 0 → i = e) → Q none (ch n kd pl (updS s 19 (i)) a (updC c 2 x) M) 0 0) : pm_E none (d + 1) pm_mm97 0 [(0, .ref (pl 200))] [] (ch n kd pl s a c M) 0 0 Q := by
  have lt := tm_lt ht
  refine pm_e_sim pm_a97_0 rfl ?_
  show pm_E _ _ _ 1 [(0, .ref (pl 200))] [.ref (pl 200)] _ _ _ _
  refine pm_i_get pm_a97_1 rfl (cg_200 hW h200) rfl ?_
  show pm_E _ _ _ 4 [(0, .ref (pl 200))] [.ref (pl (60 + 2 * 2))] _ _ _ _
  refine pm_i_callv (k := (pl (60 + 2 * 2))) (T2 := pm_mm13) pm_a97_4 rfl rfl rfl (cg_o (cj2 hW h200)) ⟨Nat.le_of_ble_eq_true rfl, Nat.le_of_ble_eq_true rfl, rfl, by decide +kernel⟩ ?_
  show pm_E none _ _ 0 [(0, .ref (pl (60 + 2 * 2)))] [] _ _ _ _
  refine C_clear hW (cj2 hW h200) ho2 (fun x hx => ?_)
  show pm_E _ _ _ 7 [(0, .ref (pl 200))] [] _ _ _ _
  refine pm_e_sim pm_a97_7 rfl ?_
  refine pm_e_top (y := iI 1) (by decide +kernel) ?_
  show pm_E _ _ _ 8 [(0, .ref (pl 200))] [.int (iI 1)] _ _ _ _
  refine pm_e_sim pm_a97_8 rfl ?_
  show pm_E _ _ _ 9 [(0, .ref (pl 200)), (1, .int (iI 1))] [] _ _ _ _
  refine pm_e_heap (show ch n kd pl s a (updC c 2 x) M = ch n kd pl (updS s 19 (s 19)) a (updC c 2 x) M from by rw [updS_self]) ?_
  have hx0 : x.2.1 = 0 := by rcases hx.2 with ⟨_, z, _⟩ | ⟨z, _⟩; exact z; exact absurd z (Nat.not_lt_zero _)
  refine C_unh_l hW h200 hin f ht hn h0 he 0 [] x (by omega) (by omega) hx hx0 (fun x1 h1 h2 => ?_) (fun x1 i h1 h2 h3 h4 => k x1 i h1 h3 h4 (fun z => absurd z h2))
  exact C_unh_x hW h200 (by decide) ⟨by omega, by omega⟩ h1.1 (Or.inr (by omega)) (k x1 e h1 (by omega) he (fun _ => rfl))
set_option maxHeartbeats 4000000 in
set_option maxRecDepth 100000 in
theorem C_pab_x {d n : Nat} {kd pl : Nat → Nat} {s : Nat → Int} {a : Nat → Int → Int} {c : Nat → cdt} {M : List va_E} {Q : Option Value → List va_E → Nat → Nat → Prop} {p : Int} {x : cdt} (hW : wf n kd pl) (h200 : al n kd pl 200) (hp : 0 ≤ p ∧ p ≤ 1500) (hok : okx (rm 2) (c 2)) (hx : okx (rm 3) x) (ho : x.2.1 ≠ 0 ∨ (c 2).1 ≤ p) (k : Q none (ch n kd pl s a (updC c 3 x) M) 0 0) : pm_E none (d + 2) pm_mm100 9 [(0, .ref (pl 200)), (1, .int (iI p))] [] (ch n kd pl s a (updC c 3 x) M) 0 0 Q := by
  have rb := rm_b 2
  obtain ⟨o1, o2, o3, o4⟩ := id hx
  obtain ⟨q1, q2, q3, q4⟩ := id hok
  refine pm_e_sim pm_a100_9 rfl ?_
  show pm_E _ _ _ 10 [(0, .ref (pl 200)), (1, .int (iI p))] [.int (iI p)] _ _ _ _
  refine pm_e_sim pm_a100_10 rfl ?_
  show pm_E _ _ _ 11 [(0, .ref (pl 200)), (1, .int (iI p))] [.ref (pl 200), .int (iI p)] _ _ _ _
  refine pm_i_get pm_a100_11 rfl (cg_200 hW h200) rfl ?_
  show pm_E _ _ _ 14 [(0, .ref (pl 200)), (1, .int (iI p))] [.ref (pl (60 + 2 * 2)), .int (iI p)] _ _ _ _
  refine pm_i_get pm_a100_14 rfl (cg_o (cj2 hW h200)) rfl ?_
  refine pm_e_top (y := iI ((c 2).1)) (congrArg (fun z : cdt => iI z.1) (updC_n (by decide))) ?_
  show pm_E _ _ _ 17 [(0, .ref (pl 200)), (1, .int (iI p))] [.int (iI ((c 2).1)), .int (iI p)] _ _ _ _
  refine pm_c_ge (t := 191) pm_a100_17 rfl ⟨by omega, by omega⟩ ⟨by omega, by omega⟩ (fun h_1 => ?_) (fun h_1 => ?_)
  · skip
    show pm_E _ _ _ 191 [(0, .ref (pl 200)), (1, .int (iI p))] [] _ _ _ _
    refine pm_e_ret pm_a100_191 rfl rfl rfl rfl rfl rfl rfl rfl ?_
    exact k
  · skip
    show pm_E _ _ _ 20 [(0, .ref (pl 200)), (1, .int (iI p))] [] _ _ _ _
    refine pm_e_sim pm_a100_20 rfl ?_
    show pm_E _ _ _ 21 [(0, .ref (pl 200)), (1, .int (iI p))] [.ref (pl 200)] _ _ _ _
    refine pm_i_get pm_a100_21 rfl (cg_200 hW h200) rfl ?_
    show pm_E _ _ _ 24 [(0, .ref (pl 200)), (1, .int (iI p))] [.ref (pl (60 + 2 * 3))] _ _ _ _
    refine pm_i_get pm_a100_24 rfl (cg_o (cj3 hW h200)) rfl ?_
    refine pm_e_top (y := iI ((x).2.1)) (congrArg (fun z : cdt => iI z.2.1) updC_at) ?_
    show pm_E _ _ _ 27 [(0, .ref (pl 200)), (1, .int (iI p))] [.int (iI ((x).2.1))] _ _ _ _
    refine pm_i_ne (t := 191) pm_a100_27 rfl ⟨by omega, by omega⟩ (fun h_2 => ?_) (fun h_2 => ?_)
    · skip
      show pm_E _ _ _ 191 [(0, .ref (pl 200)), (1, .int (iI p))] [] _ _ _ _
      refine pm_e_ret pm_a100_191 rfl rfl rfl rfl rfl rfl rfl rfl ?_
      exact k
    · skip
      exfalso; omega
set_option maxHeartbeats 4000000 in
set_option maxRecDepth 100000 in
theorem C_pab_1 {d n : Nat} {kd pl : Nat → Nat} {s : Nat → Int} {a : Nat → Int → Int} {c : Nat → cdt} {M : List va_E} {Q : Option Value → List va_E → Nat → Nat → Prop} {p e : Int} {x : cdt} {l : List Int} (hW : wf n kd pl) (h200 : al n kd pl 200) (hok : okx (rm 2) (c 2)) (hg : ∀ q, 0 ≤ q → q < (c 2).1 → 0 ≤ (c 2).2.2 q ∧ (c 2).2.2 q ≤ 100000) (hG : mt (c 2).2.2 (a 8) (c 2).1) (hp : 0 ≤ p) (hpe : p < e) (he : e ≤ (c 2).1) (hE : a 1 p = e) (hv : (c 2).2.2 p = 0 → p + 1 < a 1 (p + 1) ∧ a 1 (p + 1) < e) (hl : md x (rm 3) l) (ho : x.2.1 = 0) (k1 : (∀ j, p ≤ j → j < e → (c 2).2.2 j ≠ 10) → ∀ y, md y (rm 3) (l ++ [0] ++ [3] ++ rg (lsI (c 2).2.2) (e - p).toNat p) → pm_E none (d + 2) pm_mm100 9 [(0, .ref (pl 200)), (1, .int (iI e))] [] (ch n kd pl s a (updC c 3 y) M) 0 0 Q) (k2 : (∃ j, p ≤ j ∧ j < e ∧ (c 2).2.2 j = 10) → (c 2).2.2 p ≠ 0 → ∀ y, md y (rm 3) (l ++ [4]) → pm_E none (d + 2) pm_mm100 9 [(0, .ref (pl 200)), (1, .int (iI e))] [] (ch n kd pl s a (updC c 3 y) M) 0 0 Q) (k3 : (∃ j, p ≤ j ∧ j < e ∧ (c 2).2.2 j = 10) → (c 2).2.2 p = 0 → (c 2).2.2 (e - 1) = 10 → a 1 (p + 1) = e - 1 → (∀ j, p + 1 ≤ j → j < e - 1 → (c 2).2.2 j ≠ 10) → ∀ y, md y (rm 3) (l ++ rg (lsI (c 2).2.2) (e - 1 - (p + 1)).toNat (p + 1)) → pm_E none (d + 2) pm_mm100 9 [(0, .ref (pl 200)), (1, .int (iI e))] [] (ch n kd pl s a (updC c 3 y) M) 0 0 Q) (k4 : (∃ j, p ≤ j ∧ j < e ∧ (c 2).2.2 j = 10) → (c 2).2.2 p = 0 → ¬ ((c 2).2.2 (e - 1) = 10 ∧ a 1 (p + 1) = e - 1 ∧ ∀ j, p + 1 ≤ j → j < e - 1 → (c 2).2.2 j ≠ 10) → ∀ y, md y (rm 3) (l ++ [0] ++ [0] ++ [2]) → pm_E none (d + 2) pm_mm100 9 [(0, .ref (pl 200)), (1, .int (iI (p + 1)))] [] (ch n kd pl s a (updC c 3 y) M) 0 0 Q) : pm_E none (d + 2) pm_mm100 9 [(0, .ref (pl 200)), (1, .int (iI p))] [] (ch n kd pl s a (updC c 3 x) M) 0 0 Q := by
  have rb := rm_b 2
  have r2 : rm 2 = 502 := rfl
  obtain ⟨o1, o2, o3, o4⟩ := id hok
  obtain ⟨p1, p2, p3, p4⟩ := id hl.1
  have hz0 : 0 < (c 2).1 := by omega
  have emax : max e (p + 1) = e := by omega
  refine pm_e_sim pm_a100_9 rfl ?_
  show pm_E _ _ _ 10 [(0, .ref (pl 200)), (1, .int (iI p))] [.int (iI p)] _ _ _ _
  refine pm_e_sim pm_a100_10 rfl ?_
  show pm_E _ _ _ 11 [(0, .ref (pl 200)), (1, .int (iI p))] [.ref (pl 200), .int (iI p)] _ _ _ _
  refine pm_i_get pm_a100_11 rfl (cg_200 hW h200) rfl ?_
  show pm_E _ _ _ 14 [(0, .ref (pl 200)), (1, .int (iI p))] [.ref (pl (60 + 2 * 2)), .int (iI p)] _ _ _ _
  refine pm_i_get pm_a100_14 rfl (cg_o (cj2 hW h200)) rfl ?_
  refine pm_e_top (y := iI ((c 2).1)) (congrArg (fun z : cdt => iI z.1) (updC_n (by decide))) ?_
  show pm_E _ _ _ 17 [(0, .ref (pl 200)), (1, .int (iI p))] [.int (iI ((c 2).1)), .int (iI p)] _ _ _ _
  refine pm_c_ge (t := 191) pm_a100_17 rfl ⟨by omega, by omega⟩ ⟨by omega, by omega⟩ (fun h_1 => ?_) (fun h_1 => ?_)
  · skip
    exfalso; omega
  · skip
    show pm_E _ _ _ 20 [(0, .ref (pl 200)), (1, .int (iI p))] [] _ _ _ _
    refine pm_e_sim pm_a100_20 rfl ?_
    show pm_E _ _ _ 21 [(0, .ref (pl 200)), (1, .int (iI p))] [.ref (pl 200)] _ _ _ _
    refine pm_i_get pm_a100_21 rfl (cg_200 hW h200) rfl ?_
    show pm_E _ _ _ 24 [(0, .ref (pl 200)), (1, .int (iI p))] [.ref (pl (60 + 2 * 3))] _ _ _ _
    refine pm_i_get pm_a100_24 rfl (cg_o (cj3 hW h200)) rfl ?_
    refine pm_e_top (y := iI ((x).2.1)) (congrArg (fun z : cdt => iI z.2.1) updC_at) ?_
    show pm_E _ _ _ 27 [(0, .ref (pl 200)), (1, .int (iI p))] [.int (iI ((x).2.1))] _ _ _ _
    refine pm_i_ne (t := 191) pm_a100_27 rfl ⟨by omega, by omega⟩ (fun h_2 => ?_) (fun h_2 => ?_)
    · skip
      exfalso; omega
    · skip
      show pm_E _ _ _ 30 [(0, .ref (pl 200)), (1, .int (iI p))] [] _ _ _ _
      refine pm_e_sim pm_a100_30 rfl ?_
      show pm_E _ _ _ 31 [(0, .ref (pl 200)), (1, .int (iI p))] [.ref (pl 200)] _ _ _ _
      refine pm_i_get pm_a100_31 rfl (cg_200 hW h200) rfl ?_
      show pm_E _ _ _ 34 [(0, .ref (pl 200)), (1, .int (iI p))] [.ref (pl 6)] _ _ _ _
      refine pm_e_sim pm_a100_34 rfl ?_
      show pm_E _ _ _ 35 [(0, .ref (pl 200)), (1, .int (iI p))] [.int (iI p), .ref (pl 6)] _ _ _ _
      refine pm_i_callv (k := (pl 6)) (T2 := pm_mm72) pm_a100_35 rfl rfl rfl (cg_6 hW) ⟨Nat.le_of_ble_eq_true rfl, Nat.le_of_ble_eq_true rfl, rfl, by decide +kernel⟩ ?_
      show pm_E none _ _ 0 [(0, .ref (pl 6)), (1, .int (iI p))] [] _ _ _ _
      refine C_endOf hW ⟨by omega, by omega⟩ ?_
      rw [shE_y (by omega) (by omega), hE]
      show pm_E _ _ _ 38 [(0, .ref (pl 200)), (1, .int (iI p))] [.int (iI e)] _ _ _ _
      refine pm_e_sim pm_a100_38 rfl ?_
      show pm_E _ _ _ 39 [(0, .ref (pl 200)), (1, .int (iI p))] [.int (iI p), .int (iI e)] _ _ _ _
      refine pm_e_sim pm_a100_39 rfl ?_
      refine pm_e_top (y := iI 1) (by decide +kernel) ?_
      show pm_E _ _ _ 40 [(0, .ref (pl 200)), (1, .int (iI p))] [.int (iI 1), .int (iI p), .int (iI e)] _ _ _ _
      refine pm_e_sim pm_a100_40 rfl ?_
      refine pm_e_top (y := iI (p + 1)) (iI_add _ _) ?_
      show pm_E _ _ _ 41 [(0, .ref (pl 200)), (1, .int (iI p))] [.int (iI (p + 1)), .int (iI e)] _ _ _ _
      refine pm_i_max pm_a100_41 rfl (Nat.le_of_ble_eq_true rfl) ⟨by omega, by omega⟩ ⟨by omega, by omega⟩ ?_
      rw [emax]
      show pm_E _ _ _ 44 [(0, .ref (pl 200)), (1, .int (iI p))] [.int (iI e)] _ _ _ _
      refine pm_e_sim pm_a100_44 rfl ?_
      show pm_E _ _ _ 45 [(0, .ref (pl 200)), (1, .int (iI p)), (2, .int (iI e))] [] _ _ _ _
      refine pm_e_sim pm_a100_45 rfl ?_
      show pm_E _ _ _ 46 [(0, .ref (pl 200)), (1, .int (iI p)), (2, .int (iI e))] [.ref (pl 200)] _ _ _ _
      refine pm_e_sim pm_a100_46 rfl ?_
      show pm_E _ _ _ 47 [(0, .ref (pl 200)), (1, .int (iI p)), (2, .int (iI e))] [.int (iI p), .ref (pl 200)] _ _ _ _
      refine pm_e_sim pm_a100_47 rfl ?_
      show pm_E _ _ _ 48 [(0, .ref (pl 200)), (1, .int (iI p)), (2, .int (iI e))] [.int (iI e), .int (iI p), .ref (pl 200)] _ _ _ _
      refine pm_i_callv (k := (pl 200)) (T2 := pm_mm101) pm_a100_48 rfl rfl rfl (cg_200 hW h200) ⟨Nat.le_of_ble_eq_true rfl, Nat.le_of_ble_eq_true rfl, rfl, by decide +kernel⟩ ?_
      show pm_E none _ _ 0 [(0, .ref (pl 200)), (1, .int (iI p)), (2, .int (iI e))] [] _ _ _ _
      refine C_isMet hW h200 hG hz0 (by omega) (by omega) (by omega) (by omega) (fun m1A => ?_) (fun m0A => ?_)
      · skip
        show pm_E _ _ _ 51 [(0, .ref (pl 200)), (1, .int (iI p)), (2, .int (iI e))] [.int (iI 1)] _ _ _ _
        refine pm_e_ift pm_a100_51 rfl (by decide +kernel) ?_
        show pm_E _ _ _ 79 [(0, .ref (pl 200)), (1, .int (iI p)), (2, .int (iI e))] [] _ _ _ _
        refine pm_e_sim pm_a100_79 rfl ?_
        show pm_E _ _ _ 80 [(0, .ref (pl 200)), (1, .int (iI p)), (2, .int (iI e))] [.ref (pl 200)] _ _ _ _
        refine pm_i_get pm_a100_80 rfl (cg_200 hW h200) rfl ?_
        show pm_E _ _ _ 83 [(0, .ref (pl 200)), (1, .int (iI p)), (2, .int (iI e))] [.ref (pl (60 + 2 * 2))] _ _ _ _
        refine pm_e_sim pm_a100_83 rfl ?_
        show pm_E _ _ _ 84 [(0, .ref (pl 200)), (1, .int (iI p)), (2, .int (iI e))] [.int (iI p), .ref (pl (60 + 2 * 2))] _ _ _ _
        refine pm_i_callv (k := (pl (60 + 2 * 2))) (T2 := pm_mm47) pm_a100_84 rfl rfl rfl (cg_o (cj2 hW h200)) ⟨Nat.le_of_ble_eq_true rfl, Nat.le_of_ble_eq_true rfl, rfl, by decide +kernel⟩ ?_
        show pm_E none _ _ 0 [(0, .ref (pl (60 + 2 * 2))), (1, .int (iI p))] [] _ _ _ _
        refine C_at hW (cj2 hW h200) (updC_n (by decide)) hok.1 hok.2.1 ⟨by omega, by omega⟩ ?_
        rw [atI_y (by omega) (by omega)]
        obtain ⟨_, _⟩ := hg (p) (by omega) (by omega)
        show pm_E _ _ _ 87 [(0, .ref (pl 200)), (1, .int (iI p)), (2, .int (iI e))] [.int (iI ((c 2).2.2 p))] _ _ _ _
        refine pm_i_eq (t := 101) pm_a100_87 rfl ⟨by omega, by omega⟩ (fun h_3 => ?_) (fun h_3 => ?_)
        · skip
          show pm_E _ _ _ 101 [(0, .ref (pl 200)), (1, .int (iI p)), (2, .int (iI e))] [] _ _ _ _
          refine pm_e_sim pm_a100_101 rfl ?_
          show pm_E _ _ _ 102 [(0, .ref (pl 200)), (1, .int (iI p)), (2, .int (iI e))] [.ref (pl 200)] _ _ _ _
          refine pm_i_get pm_a100_102 rfl (cg_200 hW h200) rfl ?_
          show pm_E _ _ _ 105 [(0, .ref (pl 200)), (1, .int (iI p)), (2, .int (iI e))] [.ref (pl (60 + 2 * 2))] _ _ _ _
          refine pm_e_sim pm_a100_105 rfl ?_
          show pm_E _ _ _ 106 [(0, .ref (pl 200)), (1, .int (iI p)), (2, .int (iI e))] [.int (iI e), .ref (pl (60 + 2 * 2))] _ _ _ _
          refine pm_e_sim pm_a100_106 rfl ?_
          refine pm_e_top (y := iI 1) (by decide +kernel) ?_
          show pm_E _ _ _ 107 [(0, .ref (pl 200)), (1, .int (iI p)), (2, .int (iI e))] [.int (iI 1), .int (iI e), .ref (pl (60 + 2 * 2))] _ _ _ _
          refine pm_e_sim pm_a100_107 rfl ?_
          refine pm_e_top (y := iI (e - 1)) (iI_sub _ _) ?_
          show pm_E _ _ _ 108 [(0, .ref (pl 200)), (1, .int (iI p)), (2, .int (iI e))] [.int (iI (e - 1)), .ref (pl (60 + 2 * 2))] _ _ _ _
          refine pm_i_callv (k := (pl (60 + 2 * 2))) (T2 := pm_mm47) pm_a100_108 rfl rfl rfl (cg_o (cj2 hW h200)) ⟨Nat.le_of_ble_eq_true rfl, Nat.le_of_ble_eq_true rfl, rfl, by decide +kernel⟩ ?_
          show pm_E none _ _ 0 [(0, .ref (pl (60 + 2 * 2))), (1, .int (iI (e - 1)))] [] _ _ _ _
          refine C_at hW (cj2 hW h200) (updC_n (by decide)) hok.1 hok.2.1 ⟨by omega, by omega⟩ ?_
          rw [atI_y (by omega) (by omega)]
          obtain ⟨_, _⟩ := hg (e - 1) (by omega) (by omega)
          show pm_E _ _ _ 111 [(0, .ref (pl 200)), (1, .int (iI p)), (2, .int (iI e))] [.int (iI ((c 2).2.2 (e - 1)))] _ _ _ _
          refine pm_e_sim pm_a100_111 rfl ?_
          refine pm_e_top (y := iI 10) (by decide +kernel) ?_
          show pm_E _ _ _ 113 [(0, .ref (pl 200)), (1, .int (iI p)), (2, .int (iI e))] [.int (iI 10), .int (iI ((c 2).2.2 (e - 1)))] _ _ _ _
          refine pm_c_ne (t := 158) pm_a100_113 rfl ⟨by omega, by omega⟩ ⟨by omega, by omega⟩ (fun h_4 => ?_) (fun h_4 => ?_)
          · skip
            show pm_E _ _ _ 158 [(0, .ref (pl 200)), (1, .int (iI p)), (2, .int (iI e))] [] _ _ _ _
            refine pm_e_sim pm_a100_158 rfl ?_
            show pm_E _ _ _ 159 [(0, .ref (pl 200)), (1, .int (iI p)), (2, .int (iI e))] [.ref (pl 200)] _ _ _ _
            refine pm_i_get pm_a100_159 rfl (cg_200 hW h200) rfl ?_
            show pm_E _ _ _ 162 [(0, .ref (pl 200)), (1, .int (iI p)), (2, .int (iI e))] [.ref (pl (60 + 2 * 3))] _ _ _ _
            refine pm_e_sim pm_a100_162 rfl ?_
            refine pm_e_top (y := iI 0) (by decide +kernel) ?_
            show pm_E _ _ _ 163 [(0, .ref (pl 200)), (1, .int (iI p)), (2, .int (iI e))] [.int (iI 0), .ref (pl (60 + 2 * 3))] _ _ _ _
            refine pm_i_callv (k := (pl (60 + 2 * 3))) (T2 := pm_mm40) pm_a100_163 rfl rfl rfl (cg_o (cj3 hW h200)) ⟨Nat.le_of_ble_eq_true rfl, Nat.le_of_ble_eq_true rfl, rfl, by decide +kernel⟩ ?_
            show pm_E none _ _ 0 [(0, .ref (pl (60 + 2 * 3))), (1, .int (iI 0))] [] _ _ _ _
            refine C_put hW (cj3 hW h200) (l := l) (by rw [updC_at]; exact hl) (by decide) (fun y5 hy5 => ?_)
            rw [updC_s]
            show pm_E _ _ _ 166 [(0, .ref (pl 200)), (1, .int (iI p)), (2, .int (iI e))] [] _ _ _ _
            refine pm_e_sim pm_a100_166 rfl ?_
            show pm_E _ _ _ 167 [(0, .ref (pl 200)), (1, .int (iI p)), (2, .int (iI e))] [.ref (pl 200)] _ _ _ _
            refine pm_i_get pm_a100_167 rfl (cg_200 hW h200) rfl ?_
            show pm_E _ _ _ 170 [(0, .ref (pl 200)), (1, .int (iI p)), (2, .int (iI e))] [.ref (pl (60 + 2 * 3))] _ _ _ _
            refine pm_e_sim pm_a100_170 rfl ?_
            refine pm_e_top (y := iI 0) (by decide +kernel) ?_
            show pm_E _ _ _ 171 [(0, .ref (pl 200)), (1, .int (iI p)), (2, .int (iI e))] [.int (iI 0), .ref (pl (60 + 2 * 3))] _ _ _ _
            refine pm_i_callv (k := (pl (60 + 2 * 3))) (T2 := pm_mm40) pm_a100_171 rfl rfl rfl (cg_o (cj3 hW h200)) ⟨Nat.le_of_ble_eq_true rfl, Nat.le_of_ble_eq_true rfl, rfl, by decide +kernel⟩ ?_
            show pm_E none _ _ 0 [(0, .ref (pl (60 + 2 * 3))), (1, .int (iI 0))] [] _ _ _ _
            refine C_put hW (cj3 hW h200) (l := (l ++ [0])) (by rw [updC_at]; exact hy5) (by decide) (fun y6 hy6 => ?_)
            rw [updC_s]
            show pm_E _ _ _ 174 [(0, .ref (pl 200)), (1, .int (iI p)), (2, .int (iI e))] [] _ _ _ _
            refine pm_e_sim pm_a100_174 rfl ?_
            show pm_E _ _ _ 175 [(0, .ref (pl 200)), (1, .int (iI p)), (2, .int (iI e))] [.ref (pl 200)] _ _ _ _
            refine pm_i_get pm_a100_175 rfl (cg_200 hW h200) rfl ?_
            show pm_E _ _ _ 178 [(0, .ref (pl 200)), (1, .int (iI p)), (2, .int (iI e))] [.ref (pl (60 + 2 * 3))] _ _ _ _
            refine pm_e_sim pm_a100_178 rfl ?_
            refine pm_e_top (y := iI 2) (by decide +kernel) ?_
            show pm_E _ _ _ 179 [(0, .ref (pl 200)), (1, .int (iI p)), (2, .int (iI e))] [.int (iI 2), .ref (pl (60 + 2 * 3))] _ _ _ _
            refine pm_i_callv (k := (pl (60 + 2 * 3))) (T2 := pm_mm40) pm_a100_179 rfl rfl rfl (cg_o (cj3 hW h200)) ⟨Nat.le_of_ble_eq_true rfl, Nat.le_of_ble_eq_true rfl, rfl, by decide +kernel⟩ ?_
            show pm_E none _ _ 0 [(0, .ref (pl (60 + 2 * 3))), (1, .int (iI 2))] [] _ _ _ _
            refine C_put hW (cj3 hW h200) (l := ((l ++ [0]) ++ [0])) (by rw [updC_at]; exact hy6) (by decide) (fun y7 hy7 => ?_)
            rw [updC_s]
            show pm_E _ _ _ 182 [(0, .ref (pl 200)), (1, .int (iI p)), (2, .int (iI e))] [] _ _ _ _
            refine pm_e_sim pm_a100_182 rfl ?_
            show pm_E _ _ _ 183 [(0, .ref (pl 200)), (1, .int (iI p)), (2, .int (iI e))] [.int (iI p)] _ _ _ _
            refine pm_e_sim pm_a100_183 rfl ?_
            refine pm_e_top (y := iI 1) (by decide +kernel) ?_
            show pm_E _ _ _ 184 [(0, .ref (pl 200)), (1, .int (iI p)), (2, .int (iI e))] [.int (iI 1), .int (iI p)] _ _ _ _
            refine pm_e_sim pm_a100_184 rfl ?_
            refine pm_e_top (y := iI (p + 1)) (iI_add _ _) ?_
            show pm_E _ _ _ 185 [(0, .ref (pl 200)), (1, .int (iI p)), (2, .int (iI e))] [.int (iI (p + 1))] _ _ _ _
            refine pm_e_sim pm_a100_185 rfl ?_
            show pm_E _ _ _ 186 [(0, .ref (pl 200)), (1, .int (iI p)), (2, .int (iI (p + 1)))] [] _ _ _ _
            refine pm_e_sim pm_a100_186 rfl ?_
            show pm_E _ _ _ 187 [(0, .ref (pl 200)), (1, .int (iI p)), (2, .int (iI (p + 1)))] [.int (iI (p + 1))] _ _ _ _
            refine pm_e_sim pm_a100_187 rfl ?_
            show pm_E _ _ _ 188 [(0, .ref (pl 200)), (1, .int (iI (p + 1))), (2, .int (iI (p + 1)))] [] _ _ _ _
            refine pm_e_goto pm_a100_188 rfl ?_
            show pm_E _ _ _ 9 [(0, .ref (pl 200)), (1, .int (iI (p + 1))), (2, .int (iI (p + 1)))] [] _ _ _ _
            show pm_E _ _ _ 9 ([(0, .ref (pl 200)), (1, .int (iI (p + 1)))] ++ [(2, .int (iI (p + 1)))]) [] _ _ _ _
            refine pm_e_more [(2, .int (iI (p + 1)))] (show ([0, 1, 2] : List Nat).Nodup from by decide) ?_
            exact k4 m1A (by omega) (fun ⟨z1, z2, _⟩ => by omega) y7 hy7
          · skip
            show pm_E _ _ _ 116 [(0, .ref (pl 200)), (1, .int (iI p)), (2, .int (iI e))] [] _ _ _ _
            refine pm_e_sim pm_a100_116 rfl ?_
            show pm_E _ _ _ 117 [(0, .ref (pl 200)), (1, .int (iI p)), (2, .int (iI e))] [.ref (pl 200)] _ _ _ _
            refine pm_i_get pm_a100_117 rfl (cg_200 hW h200) rfl ?_
            show pm_E _ _ _ 120 [(0, .ref (pl 200)), (1, .int (iI p)), (2, .int (iI e))] [.ref (pl 6)] _ _ _ _
            refine pm_e_sim pm_a100_120 rfl ?_
            show pm_E _ _ _ 121 [(0, .ref (pl 200)), (1, .int (iI p)), (2, .int (iI e))] [.int (iI p), .ref (pl 6)] _ _ _ _
            refine pm_e_sim pm_a100_121 rfl ?_
            refine pm_e_top (y := iI 1) (by decide +kernel) ?_
            show pm_E _ _ _ 122 [(0, .ref (pl 200)), (1, .int (iI p)), (2, .int (iI e))] [.int (iI 1), .int (iI p), .ref (pl 6)] _ _ _ _
            refine pm_e_sim pm_a100_122 rfl ?_
            refine pm_e_top (y := iI (p + 1)) (iI_add _ _) ?_
            show pm_E _ _ _ 123 [(0, .ref (pl 200)), (1, .int (iI p)), (2, .int (iI e))] [.int (iI (p + 1)), .ref (pl 6)] _ _ _ _
            refine pm_i_callv (k := (pl 6)) (T2 := pm_mm72) pm_a100_123 rfl rfl rfl (cg_6 hW) ⟨Nat.le_of_ble_eq_true rfl, Nat.le_of_ble_eq_true rfl, rfl, by decide +kernel⟩ ?_
            show pm_E none _ _ 0 [(0, .ref (pl 6)), (1, .int (iI (p + 1)))] [] _ _ _ _
            have vb := hv (by omega)
            refine C_endOf hW ⟨by omega, by omega⟩ ?_
            rw [shE_y (by omega) (by omega)]
            show pm_E _ _ _ 126 [(0, .ref (pl 200)), (1, .int (iI p)), (2, .int (iI e))] [.int (iI (a 1 (p + 1)))] _ _ _ _
            refine pm_e_sim pm_a100_126 rfl ?_
            show pm_E _ _ _ 127 [(0, .ref (pl 200)), (1, .int (iI p)), (2, .int (iI e))] [.int (iI e), .int (iI (a 1 (p + 1)))] _ _ _ _
            refine pm_e_sim pm_a100_127 rfl ?_
            refine pm_e_top (y := iI 1) (by decide +kernel) ?_
            show pm_E _ _ _ 128 [(0, .ref (pl 200)), (1, .int (iI p)), (2, .int (iI e))] [.int (iI 1), .int (iI e), .int (iI (a 1 (p + 1)))] _ _ _ _
            refine pm_e_sim pm_a100_128 rfl ?_
            refine pm_e_top (y := iI (e - 1)) (iI_sub _ _) ?_
            show pm_E _ _ _ 129 [(0, .ref (pl 200)), (1, .int (iI p)), (2, .int (iI e))] [.int (iI (e - 1)), .int (iI (a 1 (p + 1)))] _ _ _ _
            refine pm_c_ne (t := 158) pm_a100_129 rfl ⟨by omega, by omega⟩ ⟨by omega, by omega⟩ (fun h_8 => ?_) (fun h_8 => ?_)
            · skip
              show pm_E _ _ _ 158 [(0, .ref (pl 200)), (1, .int (iI p)), (2, .int (iI e))] [] _ _ _ _
              refine pm_e_sim pm_a100_158 rfl ?_
              show pm_E _ _ _ 159 [(0, .ref (pl 200)), (1, .int (iI p)), (2, .int (iI e))] [.ref (pl 200)] _ _ _ _
              refine pm_i_get pm_a100_159 rfl (cg_200 hW h200) rfl ?_
              show pm_E _ _ _ 162 [(0, .ref (pl 200)), (1, .int (iI p)), (2, .int (iI e))] [.ref (pl (60 + 2 * 3))] _ _ _ _
              refine pm_e_sim pm_a100_162 rfl ?_
              refine pm_e_top (y := iI 0) (by decide +kernel) ?_
              show pm_E _ _ _ 163 [(0, .ref (pl 200)), (1, .int (iI p)), (2, .int (iI e))] [.int (iI 0), .ref (pl (60 + 2 * 3))] _ _ _ _
              refine pm_i_callv (k := (pl (60 + 2 * 3))) (T2 := pm_mm40) pm_a100_163 rfl rfl rfl (cg_o (cj3 hW h200)) ⟨Nat.le_of_ble_eq_true rfl, Nat.le_of_ble_eq_true rfl, rfl, by decide +kernel⟩ ?_
              show pm_E none _ _ 0 [(0, .ref (pl (60 + 2 * 3))), (1, .int (iI 0))] [] _ _ _ _
              refine C_put hW (cj3 hW h200) (l := l) (by rw [updC_at]; exact hl) (by decide) (fun y9 hy9 => ?_)
              rw [updC_s]
              show pm_E _ _ _ 166 [(0, .ref (pl 200)), (1, .int (iI p)), (2, .int (iI e))] [] _ _ _ _
              refine pm_e_sim pm_a100_166 rfl ?_
              show pm_E _ _ _ 167 [(0, .ref (pl 200)), (1, .int (iI p)), (2, .int (iI e))] [.ref (pl 200)] _ _ _ _
              refine pm_i_get pm_a100_167 rfl (cg_200 hW h200) rfl ?_
              show pm_E _ _ _ 170 [(0, .ref (pl 200)), (1, .int (iI p)), (2, .int (iI e))] [.ref (pl (60 + 2 * 3))] _ _ _ _
              refine pm_e_sim pm_a100_170 rfl ?_
              refine pm_e_top (y := iI 0) (by decide +kernel) ?_
              show pm_E _ _ _ 171 [(0, .ref (pl 200)), (1, .int (iI p)), (2, .int (iI e))] [.int (iI 0), .ref (pl (60 + 2 * 3))] _ _ _ _
              refine pm_i_callv (k := (pl (60 + 2 * 3))) (T2 := pm_mm40) pm_a100_171 rfl rfl rfl (cg_o (cj3 hW h200)) ⟨Nat.le_of_ble_eq_true rfl, Nat.le_of_ble_eq_true rfl, rfl, by decide +kernel⟩ ?_
              show pm_E none _ _ 0 [(0, .ref (pl (60 + 2 * 3))), (1, .int (iI 0))] [] _ _ _ _
              refine C_put hW (cj3 hW h200) (l := (l ++ [0])) (by rw [updC_at]; exact hy9) (by decide) (fun y10 hy10 => ?_)
              rw [updC_s]
              show pm_E _ _ _ 174 [(0, .ref (pl 200)), (1, .int (iI p)), (2, .int (iI e))] [] _ _ _ _
              refine pm_e_sim pm_a100_174 rfl ?_
              show pm_E _ _ _ 175 [(0, .ref (pl 200)), (1, .int (iI p)), (2, .int (iI e))] [.ref (pl 200)] _ _ _ _
              refine pm_i_get pm_a100_175 rfl (cg_200 hW h200) rfl ?_
              show pm_E _ _ _ 178 [(0, .ref (pl 200)), (1, .int (iI p)), (2, .int (iI e))] [.ref (pl (60 + 2 * 3))] _ _ _ _
              refine pm_e_sim pm_a100_178 rfl ?_
              refine pm_e_top (y := iI 2) (by decide +kernel) ?_
              show pm_E _ _ _ 179 [(0, .ref (pl 200)), (1, .int (iI p)), (2, .int (iI e))] [.int (iI 2), .ref (pl (60 + 2 * 3))] _ _ _ _
              refine pm_i_callv (k := (pl (60 + 2 * 3))) (T2 := pm_mm40) pm_a100_179 rfl rfl rfl (cg_o (cj3 hW h200)) ⟨Nat.le_of_ble_eq_true rfl, Nat.le_of_ble_eq_true rfl, rfl, by decide +kernel⟩ ?_
              show pm_E none _ _ 0 [(0, .ref (pl (60 + 2 * 3))), (1, .int (iI 2))] [] _ _ _ _
              refine C_put hW (cj3 hW h200) (l := ((l ++ [0]) ++ [0])) (by rw [updC_at]; exact hy10) (by decide) (fun y11 hy11 => ?_)
              rw [updC_s]
              show pm_E _ _ _ 182 [(0, .ref (pl 200)), (1, .int (iI p)), (2, .int (iI e))] [] _ _ _ _
              refine pm_e_sim pm_a100_182 rfl ?_
              show pm_E _ _ _ 183 [(0, .ref (pl 200)), (1, .int (iI p)), (2, .int (iI e))] [.int (iI p)] _ _ _ _
              refine pm_e_sim pm_a100_183 rfl ?_
              refine pm_e_top (y := iI 1) (by decide +kernel) ?_
              show pm_E _ _ _ 184 [(0, .ref (pl 200)), (1, .int (iI p)), (2, .int (iI e))] [.int (iI 1), .int (iI p)] _ _ _ _
              refine pm_e_sim pm_a100_184 rfl ?_
              refine pm_e_top (y := iI (p + 1)) (iI_add _ _) ?_
              show pm_E _ _ _ 185 [(0, .ref (pl 200)), (1, .int (iI p)), (2, .int (iI e))] [.int (iI (p + 1))] _ _ _ _
              refine pm_e_sim pm_a100_185 rfl ?_
              show pm_E _ _ _ 186 [(0, .ref (pl 200)), (1, .int (iI p)), (2, .int (iI (p + 1)))] [] _ _ _ _
              refine pm_e_sim pm_a100_186 rfl ?_
              show pm_E _ _ _ 187 [(0, .ref (pl 200)), (1, .int (iI p)), (2, .int (iI (p + 1)))] [.int (iI (p + 1))] _ _ _ _
              refine pm_e_sim pm_a100_187 rfl ?_
              show pm_E _ _ _ 188 [(0, .ref (pl 200)), (1, .int (iI (p + 1))), (2, .int (iI (p + 1)))] [] _ _ _ _
              refine pm_e_goto pm_a100_188 rfl ?_
              show pm_E _ _ _ 9 [(0, .ref (pl 200)), (1, .int (iI (p + 1))), (2, .int (iI (p + 1)))] [] _ _ _ _
              show pm_E _ _ _ 9 ([(0, .ref (pl 200)), (1, .int (iI (p + 1)))] ++ [(2, .int (iI (p + 1)))]) [] _ _ _ _
              refine pm_e_more [(2, .int (iI (p + 1)))] (show ([0, 1, 2] : List Nat).Nodup from by decide) ?_
              exact k4 m1A (by omega) (fun ⟨z1, z2, _⟩ => by omega) y11 hy11
            · skip
              show pm_E _ _ _ 132 [(0, .ref (pl 200)), (1, .int (iI p)), (2, .int (iI e))] [] _ _ _ _
              refine pm_e_sim pm_a100_132 rfl ?_
              show pm_E _ _ _ 133 [(0, .ref (pl 200)), (1, .int (iI p)), (2, .int (iI e))] [.ref (pl 200)] _ _ _ _
              refine pm_e_sim pm_a100_133 rfl ?_
              show pm_E _ _ _ 134 [(0, .ref (pl 200)), (1, .int (iI p)), (2, .int (iI e))] [.int (iI p), .ref (pl 200)] _ _ _ _
              refine pm_e_sim pm_a100_134 rfl ?_
              refine pm_e_top (y := iI 1) (by decide +kernel) ?_
              show pm_E _ _ _ 135 [(0, .ref (pl 200)), (1, .int (iI p)), (2, .int (iI e))] [.int (iI 1), .int (iI p), .ref (pl 200)] _ _ _ _
              refine pm_e_sim pm_a100_135 rfl ?_
              refine pm_e_top (y := iI (p + 1)) (iI_add _ _) ?_
              show pm_E _ _ _ 136 [(0, .ref (pl 200)), (1, .int (iI p)), (2, .int (iI e))] [.int (iI (p + 1)), .ref (pl 200)] _ _ _ _
              refine pm_e_sim pm_a100_136 rfl ?_
              show pm_E _ _ _ 137 [(0, .ref (pl 200)), (1, .int (iI p)), (2, .int (iI e))] [.int (iI e), .int (iI (p + 1)), .ref (pl 200)] _ _ _ _
              refine pm_e_sim pm_a100_137 rfl ?_
              refine pm_e_top (y := iI 1) (by decide +kernel) ?_
              show pm_E _ _ _ 138 [(0, .ref (pl 200)), (1, .int (iI p)), (2, .int (iI e))] [.int (iI 1), .int (iI e), .int (iI (p + 1)), .ref (pl 200)] _ _ _ _
              refine pm_e_sim pm_a100_138 rfl ?_
              refine pm_e_top (y := iI (e - 1)) (iI_sub _ _) ?_
              show pm_E _ _ _ 139 [(0, .ref (pl 200)), (1, .int (iI p)), (2, .int (iI e))] [.int (iI (e - 1)), .int (iI (p + 1)), .ref (pl 200)] _ _ _ _
              refine pm_i_callv (k := (pl 200)) (T2 := pm_mm101) pm_a100_139 rfl rfl rfl (cg_200 hW h200) ⟨Nat.le_of_ble_eq_true rfl, Nat.le_of_ble_eq_true rfl, rfl, by decide +kernel⟩ ?_
              show pm_E none _ _ 0 [(0, .ref (pl 200)), (1, .int (iI (p + 1))), (2, .int (iI (e - 1)))] [] _ _ _ _
              refine C_isMet hW h200 hG hz0 (by omega) (by omega) (by omega) (by omega) (fun m1B => ?_) (fun m0B => ?_)
              · skip
                show pm_E _ _ _ 142 [(0, .ref (pl 200)), (1, .int (iI p)), (2, .int (iI e))] [.int (iI 1)] _ _ _ _
                refine pm_e_ift pm_a100_142 rfl (by decide +kernel) ?_
                show pm_E _ _ _ 158 [(0, .ref (pl 200)), (1, .int (iI p)), (2, .int (iI e))] [] _ _ _ _
                refine pm_e_sim pm_a100_158 rfl ?_
                show pm_E _ _ _ 159 [(0, .ref (pl 200)), (1, .int (iI p)), (2, .int (iI e))] [.ref (pl 200)] _ _ _ _
                refine pm_i_get pm_a100_159 rfl (cg_200 hW h200) rfl ?_
                show pm_E _ _ _ 162 [(0, .ref (pl 200)), (1, .int (iI p)), (2, .int (iI e))] [.ref (pl (60 + 2 * 3))] _ _ _ _
                refine pm_e_sim pm_a100_162 rfl ?_
                refine pm_e_top (y := iI 0) (by decide +kernel) ?_
                show pm_E _ _ _ 163 [(0, .ref (pl 200)), (1, .int (iI p)), (2, .int (iI e))] [.int (iI 0), .ref (pl (60 + 2 * 3))] _ _ _ _
                refine pm_i_callv (k := (pl (60 + 2 * 3))) (T2 := pm_mm40) pm_a100_163 rfl rfl rfl (cg_o (cj3 hW h200)) ⟨Nat.le_of_ble_eq_true rfl, Nat.le_of_ble_eq_true rfl, rfl, by decide +kernel⟩ ?_
                show pm_E none _ _ 0 [(0, .ref (pl (60 + 2 * 3))), (1, .int (iI 0))] [] _ _ _ _
                refine C_put hW (cj3 hW h200) (l := l) (by rw [updC_at]; exact hl) (by decide) (fun y12 hy12 => ?_)
                rw [updC_s]
                show pm_E _ _ _ 166 [(0, .ref (pl 200)), (1, .int (iI p)), (2, .int (iI e))] [] _ _ _ _
                refine pm_e_sim pm_a100_166 rfl ?_
                show pm_E _ _ _ 167 [(0, .ref (pl 200)), (1, .int (iI p)), (2, .int (iI e))] [.ref (pl 200)] _ _ _ _
                refine pm_i_get pm_a100_167 rfl (cg_200 hW h200) rfl ?_
                show pm_E _ _ _ 170 [(0, .ref (pl 200)), (1, .int (iI p)), (2, .int (iI e))] [.ref (pl (60 + 2 * 3))] _ _ _ _
                refine pm_e_sim pm_a100_170 rfl ?_
                refine pm_e_top (y := iI 0) (by decide +kernel) ?_
                show pm_E _ _ _ 171 [(0, .ref (pl 200)), (1, .int (iI p)), (2, .int (iI e))] [.int (iI 0), .ref (pl (60 + 2 * 3))] _ _ _ _
                refine pm_i_callv (k := (pl (60 + 2 * 3))) (T2 := pm_mm40) pm_a100_171 rfl rfl rfl (cg_o (cj3 hW h200)) ⟨Nat.le_of_ble_eq_true rfl, Nat.le_of_ble_eq_true rfl, rfl, by decide +kernel⟩ ?_
                show pm_E none _ _ 0 [(0, .ref (pl (60 + 2 * 3))), (1, .int (iI 0))] [] _ _ _ _
                refine C_put hW (cj3 hW h200) (l := (l ++ [0])) (by rw [updC_at]; exact hy12) (by decide) (fun y13 hy13 => ?_)
                rw [updC_s]
                show pm_E _ _ _ 174 [(0, .ref (pl 200)), (1, .int (iI p)), (2, .int (iI e))] [] _ _ _ _
                refine pm_e_sim pm_a100_174 rfl ?_
                show pm_E _ _ _ 175 [(0, .ref (pl 200)), (1, .int (iI p)), (2, .int (iI e))] [.ref (pl 200)] _ _ _ _
                refine pm_i_get pm_a100_175 rfl (cg_200 hW h200) rfl ?_
                show pm_E _ _ _ 178 [(0, .ref (pl 200)), (1, .int (iI p)), (2, .int (iI e))] [.ref (pl (60 + 2 * 3))] _ _ _ _
                refine pm_e_sim pm_a100_178 rfl ?_
                refine pm_e_top (y := iI 2) (by decide +kernel) ?_
                show pm_E _ _ _ 179 [(0, .ref (pl 200)), (1, .int (iI p)), (2, .int (iI e))] [.int (iI 2), .ref (pl (60 + 2 * 3))] _ _ _ _
                refine pm_i_callv (k := (pl (60 + 2 * 3))) (T2 := pm_mm40) pm_a100_179 rfl rfl rfl (cg_o (cj3 hW h200)) ⟨Nat.le_of_ble_eq_true rfl, Nat.le_of_ble_eq_true rfl, rfl, by decide +kernel⟩ ?_
                show pm_E none _ _ 0 [(0, .ref (pl (60 + 2 * 3))), (1, .int (iI 2))] [] _ _ _ _
                refine C_put hW (cj3 hW h200) (l := ((l ++ [0]) ++ [0])) (by rw [updC_at]; exact hy13) (by decide) (fun y14 hy14 => ?_)
                rw [updC_s]
                show pm_E _ _ _ 182 [(0, .ref (pl 200)), (1, .int (iI p)), (2, .int (iI e))] [] _ _ _ _
                refine pm_e_sim pm_a100_182 rfl ?_
                show pm_E _ _ _ 183 [(0, .ref (pl 200)), (1, .int (iI p)), (2, .int (iI e))] [.int (iI p)] _ _ _ _
                refine pm_e_sim pm_a100_183 rfl ?_
                refine pm_e_top (y := iI 1) (by decide +kernel) ?_
                show pm_E _ _ _ 184 [(0, .ref (pl 200)), (1, .int (iI p)), (2, .int (iI e))] [.int (iI 1), .int (iI p)] _ _ _ _
                refine pm_e_sim pm_a100_184 rfl ?_
                refine pm_e_top (y := iI (p + 1)) (iI_add _ _) ?_
                show pm_E _ _ _ 185 [(0, .ref (pl 200)), (1, .int (iI p)), (2, .int (iI e))] [.int (iI (p + 1))] _ _ _ _
                refine pm_e_sim pm_a100_185 rfl ?_
                show pm_E _ _ _ 186 [(0, .ref (pl 200)), (1, .int (iI p)), (2, .int (iI (p + 1)))] [] _ _ _ _
                refine pm_e_sim pm_a100_186 rfl ?_
                show pm_E _ _ _ 187 [(0, .ref (pl 200)), (1, .int (iI p)), (2, .int (iI (p + 1)))] [.int (iI (p + 1))] _ _ _ _
                refine pm_e_sim pm_a100_187 rfl ?_
                show pm_E _ _ _ 188 [(0, .ref (pl 200)), (1, .int (iI (p + 1))), (2, .int (iI (p + 1)))] [] _ _ _ _
                refine pm_e_goto pm_a100_188 rfl ?_
                show pm_E _ _ _ 9 [(0, .ref (pl 200)), (1, .int (iI (p + 1))), (2, .int (iI (p + 1)))] [] _ _ _ _
                show pm_E _ _ _ 9 ([(0, .ref (pl 200)), (1, .int (iI (p + 1)))] ++ [(2, .int (iI (p + 1)))]) [] _ _ _ _
                refine pm_e_more [(2, .int (iI (p + 1)))] (show ([0, 1, 2] : List Nat).Nodup from by decide) ?_
                refine k4 m1A (by omega) (fun ⟨_, z2, z3⟩ => ?_) y14 hy14
                obtain ⟨j, j1, j2, j3⟩ := m1B
                exact z3 j j1 j2 j3
              · skip
                show pm_E _ _ _ 142 [(0, .ref (pl 200)), (1, .int (iI p)), (2, .int (iI e))] [.int (iI 0)] _ _ _ _
                refine pm_e_iff pm_a100_142 rfl (by decide +kernel) ?_
                show pm_E _ _ _ 145 [(0, .ref (pl 200)), (1, .int (iI p)), (2, .int (iI e))] [] _ _ _ _
                refine pm_e_sim pm_a100_145 rfl ?_
                show pm_E _ _ _ 146 [(0, .ref (pl 200)), (1, .int (iI p)), (2, .int (iI e))] [.ref (pl 200)] _ _ _ _
                refine pm_e_sim pm_a100_146 rfl ?_
                show pm_E _ _ _ 147 [(0, .ref (pl 200)), (1, .int (iI p)), (2, .int (iI e))] [.int (iI p), .ref (pl 200)] _ _ _ _
                refine pm_e_sim pm_a100_147 rfl ?_
                refine pm_e_top (y := iI 1) (by decide +kernel) ?_
                show pm_E _ _ _ 148 [(0, .ref (pl 200)), (1, .int (iI p)), (2, .int (iI e))] [.int (iI 1), .int (iI p), .ref (pl 200)] _ _ _ _
                refine pm_e_sim pm_a100_148 rfl ?_
                refine pm_e_top (y := iI (p + 1)) (iI_add _ _) ?_
                show pm_E _ _ _ 149 [(0, .ref (pl 200)), (1, .int (iI p)), (2, .int (iI e))] [.int (iI (p + 1)), .ref (pl 200)] _ _ _ _
                refine pm_e_sim pm_a100_149 rfl ?_
                show pm_E _ _ _ 150 [(0, .ref (pl 200)), (1, .int (iI p)), (2, .int (iI e))] [.int (iI e), .int (iI (p + 1)), .ref (pl 200)] _ _ _ _
                refine pm_e_sim pm_a100_150 rfl ?_
                refine pm_e_top (y := iI 1) (by decide +kernel) ?_
                show pm_E _ _ _ 151 [(0, .ref (pl 200)), (1, .int (iI p)), (2, .int (iI e))] [.int (iI 1), .int (iI e), .int (iI (p + 1)), .ref (pl 200)] _ _ _ _
                refine pm_e_sim pm_a100_151 rfl ?_
                refine pm_e_top (y := iI (e - 1)) (iI_sub _ _) ?_
                show pm_E _ _ _ 152 [(0, .ref (pl 200)), (1, .int (iI p)), (2, .int (iI e))] [.int (iI (e - 1)), .int (iI (p + 1)), .ref (pl 200)] _ _ _ _
                refine pm_i_callv (k := (pl 200)) (T2 := pm_mm102) pm_a100_152 rfl rfl rfl (cg_200 hW h200) ⟨Nat.le_of_ble_eq_true rfl, Nat.le_of_ble_eq_true rfl, rfl, by decide +kernel⟩ ?_
                show pm_E none _ _ 0 [(0, .ref (pl 200)), (1, .int (iI (p + 1))), (2, .int (iI (e - 1)))] [] _ _ _ _
                refine C_putLowered (l := l) hW h200 (updC_n (by decide)) hok hg (by omega) (by omega) (m0B) (by omega) (by rw [updC_at]; exact hl) (fun y15 hy15 => ?_)
                rw [updC_s]
                show pm_E _ _ _ 155 [(0, .ref (pl 200)), (1, .int (iI p)), (2, .int (iI e))] [] _ _ _ _
                refine pm_e_goto pm_a100_155 rfl ?_
                show pm_E _ _ _ 186 [(0, .ref (pl 200)), (1, .int (iI p)), (2, .int (iI e))] [] _ _ _ _
                refine pm_e_sim pm_a100_186 rfl ?_
                show pm_E _ _ _ 187 [(0, .ref (pl 200)), (1, .int (iI p)), (2, .int (iI e))] [.int (iI e)] _ _ _ _
                refine pm_e_sim pm_a100_187 rfl ?_
                show pm_E _ _ _ 188 [(0, .ref (pl 200)), (1, .int (iI e)), (2, .int (iI e))] [] _ _ _ _
                refine pm_e_goto pm_a100_188 rfl ?_
                show pm_E _ _ _ 9 [(0, .ref (pl 200)), (1, .int (iI e)), (2, .int (iI e))] [] _ _ _ _
                show pm_E _ _ _ 9 ([(0, .ref (pl 200)), (1, .int (iI e))] ++ [(2, .int (iI e))]) [] _ _ _ _
                refine pm_e_more [(2, .int (iI e))] (show ([0, 1, 2] : List Nat).Nodup from by decide) ?_
                exact k3 m1A (by omega) (by omega) (by omega) m0B y15 hy15
        · skip
          show pm_E _ _ _ 90 [(0, .ref (pl 200)), (1, .int (iI p)), (2, .int (iI e))] [] _ _ _ _
          refine pm_e_sim pm_a100_90 rfl ?_
          show pm_E _ _ _ 91 [(0, .ref (pl 200)), (1, .int (iI p)), (2, .int (iI e))] [.ref (pl 200)] _ _ _ _
          refine pm_i_get pm_a100_91 rfl (cg_200 hW h200) rfl ?_
          show pm_E _ _ _ 94 [(0, .ref (pl 200)), (1, .int (iI p)), (2, .int (iI e))] [.ref (pl (60 + 2 * 3))] _ _ _ _
          refine pm_e_sim pm_a100_94 rfl ?_
          refine pm_e_top (y := iI 4) (by decide +kernel) ?_
          show pm_E _ _ _ 95 [(0, .ref (pl 200)), (1, .int (iI p)), (2, .int (iI e))] [.int (iI 4), .ref (pl (60 + 2 * 3))] _ _ _ _
          refine pm_i_callv (k := (pl (60 + 2 * 3))) (T2 := pm_mm40) pm_a100_95 rfl rfl rfl (cg_o (cj3 hW h200)) ⟨Nat.le_of_ble_eq_true rfl, Nat.le_of_ble_eq_true rfl, rfl, by decide +kernel⟩ ?_
          show pm_E none _ _ 0 [(0, .ref (pl (60 + 2 * 3))), (1, .int (iI 4))] [] _ _ _ _
          refine C_put hW (cj3 hW h200) (l := l) (by rw [updC_at]; exact hl) (by decide) (fun y16 hy16 => ?_)
          rw [updC_s]
          show pm_E _ _ _ 98 [(0, .ref (pl 200)), (1, .int (iI p)), (2, .int (iI e))] [] _ _ _ _
          refine pm_e_goto pm_a100_98 rfl ?_
          show pm_E _ _ _ 186 [(0, .ref (pl 200)), (1, .int (iI p)), (2, .int (iI e))] [] _ _ _ _
          refine pm_e_sim pm_a100_186 rfl ?_
          show pm_E _ _ _ 187 [(0, .ref (pl 200)), (1, .int (iI p)), (2, .int (iI e))] [.int (iI e)] _ _ _ _
          refine pm_e_sim pm_a100_187 rfl ?_
          show pm_E _ _ _ 188 [(0, .ref (pl 200)), (1, .int (iI e)), (2, .int (iI e))] [] _ _ _ _
          refine pm_e_goto pm_a100_188 rfl ?_
          show pm_E _ _ _ 9 [(0, .ref (pl 200)), (1, .int (iI e)), (2, .int (iI e))] [] _ _ _ _
          show pm_E _ _ _ 9 ([(0, .ref (pl 200)), (1, .int (iI e))] ++ [(2, .int (iI e))]) [] _ _ _ _
          refine pm_e_more [(2, .int (iI e))] (show ([0, 1, 2] : List Nat).Nodup from by decide) ?_
          exact k2 m1A (by omega) y16 hy16
      · skip
        show pm_E _ _ _ 51 [(0, .ref (pl 200)), (1, .int (iI p)), (2, .int (iI e))] [.int (iI 0)] _ _ _ _
        refine pm_e_iff pm_a100_51 rfl (by decide +kernel) ?_
        show pm_E _ _ _ 54 [(0, .ref (pl 200)), (1, .int (iI p)), (2, .int (iI e))] [] _ _ _ _
        refine pm_e_sim pm_a100_54 rfl ?_
        show pm_E _ _ _ 55 [(0, .ref (pl 200)), (1, .int (iI p)), (2, .int (iI e))] [.ref (pl 200)] _ _ _ _
        refine pm_i_get pm_a100_55 rfl (cg_200 hW h200) rfl ?_
        show pm_E _ _ _ 58 [(0, .ref (pl 200)), (1, .int (iI p)), (2, .int (iI e))] [.ref (pl (60 + 2 * 3))] _ _ _ _
        refine pm_e_sim pm_a100_58 rfl ?_
        refine pm_e_top (y := iI 0) (by decide +kernel) ?_
        show pm_E _ _ _ 59 [(0, .ref (pl 200)), (1, .int (iI p)), (2, .int (iI e))] [.int (iI 0), .ref (pl (60 + 2 * 3))] _ _ _ _
        refine pm_i_callv (k := (pl (60 + 2 * 3))) (T2 := pm_mm40) pm_a100_59 rfl rfl rfl (cg_o (cj3 hW h200)) ⟨Nat.le_of_ble_eq_true rfl, Nat.le_of_ble_eq_true rfl, rfl, by decide +kernel⟩ ?_
        show pm_E none _ _ 0 [(0, .ref (pl (60 + 2 * 3))), (1, .int (iI 0))] [] _ _ _ _
        refine C_put hW (cj3 hW h200) (l := l) (by rw [updC_at]; exact hl) (by decide) (fun y17 hy17 => ?_)
        rw [updC_s]
        show pm_E _ _ _ 62 [(0, .ref (pl 200)), (1, .int (iI p)), (2, .int (iI e))] [] _ _ _ _
        refine pm_e_sim pm_a100_62 rfl ?_
        show pm_E _ _ _ 63 [(0, .ref (pl 200)), (1, .int (iI p)), (2, .int (iI e))] [.ref (pl 200)] _ _ _ _
        refine pm_i_get pm_a100_63 rfl (cg_200 hW h200) rfl ?_
        show pm_E _ _ _ 66 [(0, .ref (pl 200)), (1, .int (iI p)), (2, .int (iI e))] [.ref (pl (60 + 2 * 3))] _ _ _ _
        refine pm_e_sim pm_a100_66 rfl ?_
        refine pm_e_top (y := iI 3) (by decide +kernel) ?_
        show pm_E _ _ _ 67 [(0, .ref (pl 200)), (1, .int (iI p)), (2, .int (iI e))] [.int (iI 3), .ref (pl (60 + 2 * 3))] _ _ _ _
        refine pm_i_callv (k := (pl (60 + 2 * 3))) (T2 := pm_mm40) pm_a100_67 rfl rfl rfl (cg_o (cj3 hW h200)) ⟨Nat.le_of_ble_eq_true rfl, Nat.le_of_ble_eq_true rfl, rfl, by decide +kernel⟩ ?_
        show pm_E none _ _ 0 [(0, .ref (pl (60 + 2 * 3))), (1, .int (iI 3))] [] _ _ _ _
        refine C_put hW (cj3 hW h200) (l := (l ++ [0])) (by rw [updC_at]; exact hy17) (by decide) (fun y18 hy18 => ?_)
        rw [updC_s]
        show pm_E _ _ _ 70 [(0, .ref (pl 200)), (1, .int (iI p)), (2, .int (iI e))] [] _ _ _ _
        refine pm_e_sim pm_a100_70 rfl ?_
        show pm_E _ _ _ 71 [(0, .ref (pl 200)), (1, .int (iI p)), (2, .int (iI e))] [.ref (pl 200)] _ _ _ _
        refine pm_e_sim pm_a100_71 rfl ?_
        show pm_E _ _ _ 72 [(0, .ref (pl 200)), (1, .int (iI p)), (2, .int (iI e))] [.int (iI p), .ref (pl 200)] _ _ _ _
        refine pm_e_sim pm_a100_72 rfl ?_
        show pm_E _ _ _ 73 [(0, .ref (pl 200)), (1, .int (iI p)), (2, .int (iI e))] [.int (iI e), .int (iI p), .ref (pl 200)] _ _ _ _
        refine pm_i_callv (k := (pl 200)) (T2 := pm_mm102) pm_a100_73 rfl rfl rfl (cg_200 hW h200) ⟨Nat.le_of_ble_eq_true rfl, Nat.le_of_ble_eq_true rfl, rfl, by decide +kernel⟩ ?_
        show pm_E none _ _ 0 [(0, .ref (pl 200)), (1, .int (iI p)), (2, .int (iI e))] [] _ _ _ _
        refine C_putLowered (l := ((l ++ [0]) ++ [3])) hW h200 (updC_n (by decide)) hok hg (by omega) (by omega) (m0A) (by omega) (by rw [updC_at]; exact hy18) (fun y19 hy19 => ?_)
        rw [updC_s]
        show pm_E _ _ _ 76 [(0, .ref (pl 200)), (1, .int (iI p)), (2, .int (iI e))] [] _ _ _ _
        refine pm_e_goto pm_a100_76 rfl ?_
        show pm_E _ _ _ 186 [(0, .ref (pl 200)), (1, .int (iI p)), (2, .int (iI e))] [] _ _ _ _
        refine pm_e_sim pm_a100_186 rfl ?_
        show pm_E _ _ _ 187 [(0, .ref (pl 200)), (1, .int (iI p)), (2, .int (iI e))] [.int (iI e)] _ _ _ _
        refine pm_e_sim pm_a100_187 rfl ?_
        show pm_E _ _ _ 188 [(0, .ref (pl 200)), (1, .int (iI e)), (2, .int (iI e))] [] _ _ _ _
        refine pm_e_goto pm_a100_188 rfl ?_
        show pm_E _ _ _ 9 [(0, .ref (pl 200)), (1, .int (iI e)), (2, .int (iI e))] [] _ _ _ _
        show pm_E _ _ _ 9 ([(0, .ref (pl 200)), (1, .int (iI e))] ++ [(2, .int (iI e))]) [] _ _ _ _
        refine pm_e_more [(2, .int (iI e))] (show ([0, 1, 2] : List Nat).Nodup from by decide) ?_
        exact k1 m0A y19 hy19
