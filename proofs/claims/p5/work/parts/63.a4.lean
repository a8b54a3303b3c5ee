/-! THE CLASS: freshTerm in one; copy and apply behind it -/
/-- the cells grow: what stood stands, in its place -/
def grw (n : Nat) (kd pl : Nat → Nat) (n' : Nat) (kd' pl' : Nat → Nat) : Prop := wf n' kd' pl' ∧ n ≤ n' ∧ ∀ k, al n kd pl k → al n' kd' pl' k ∧ pl' k = pl k
/-- they grow by one Code -/
def grx (j n : Nat) (kd pl : Nat → Nat) (n' : Nat) (kd' pl' : Nat → Nat) : Prop := grw n kd pl n' kd' pl' ∧ ∀ k, k ≠ 60 + 2 * j → k ≠ 61 + 2 * j → pl' k = pl k
theorem grw_r {n : Nat} {kd pl : Nat → Nat} (hW : wf n kd pl) : grw n kd pl n kd pl := ⟨hW, Nat.le_refl _, fun _ h => ⟨h, rfl⟩⟩
theorem grw_n {n : Nat} {kd pl : Nat → Nat} {j : Nat} (hW : wf n kd pl) (hj : 6 ≤ j ∧ j < 38) (hno : pl (60 + 2 * j) = 0) (hno1 : pl (61 + 2 * j) = 0) : grw n kd pl (n + 2) (kdN kd n j) (plN pl n j) := ⟨wf_new hW hj hno hno1, by omega, fun k h => ⟨al_new hW hno hno1 h, plN_o (al_ne hW h hno (by omega)) (al_ne hW h hno1 (by omega))⟩⟩
theorem C_freshTerm {d n : Nat} {kd pl : Nat → Nat} {s : Nat → Int} {a : Nat → Int → Int} {c : Nat → cdt} {M : List va_E} {Q : Option Value → List va_E → Nat → Nat → Prop} (hW : wf n kd pl) (h0 : 0 ≤ s 0) (h1 : s 0 ≤ 32) (hf : s 0 < 32 → (al n kd pl (60 + 2 * (6 + (s 0).toNat)) ∧ okx (rm (6 + (s 0).toNat)) (c (6 + (s 0).toNat))) ∨ (pl (60 + 2 * (6 + (s 0).toNat)) = 0 ∧ pl (61 + 2 * (6 + (s 0).toNat)) = 0)) (k0 : s 0 = 32 → Q (some .null) (ch n kd pl s a c M) 0 0) (k1 : s 0 < 32 → ∀ n' kd' pl' x nc ns, grx (6 + (s 0).toNat) n kd pl n' kd' pl' → nc ≤ 2 → ns ≤ 503 → al n' kd' pl' (60 + 2 * (6 + (s 0).toNat)) → md x (rm (6 + (s 0).toNat)) [] → Q (some (.ref (pl' (60 + 2 * (6 + (s 0).toNat))))) (ch n' kd' pl' s a (updC c (6 + (s 0).toNat) x) M) nc ns) : pm_E none (d + 1) pm_mm12 0 [(0, .ref (pl 0))] [] (ch n kd pl s a c M) 0 0 Q := by
  by_cases h32 : s 0 = 32
  · exact C_fresh0 hW h32 (k0 h32)
  · rcases hf (by omega) with ⟨ha, ho⟩ | ⟨hn, hn1⟩
    · exact C_fresh1 hW h0 (by omega) ha ho (fun x hx => k1 (by omega) n kd pl x 0 0 ⟨grw_r hW, fun _ _ _ => rfl⟩ (by omega) (by omega) ha hx)
    · exact C_fresh2 hW h0 (by omega) hn hn1 (fun x hx => k1 (by omega) _ _ _ x 2 503 ⟨grw_n hW ⟨by omega, by omega⟩ hn hn1, fun k h h1 => plN_o h h1⟩ (by omega) (by omega) al_n0 hx)
set_option maxHeartbeats 4000000 in
set_option maxRecDepth 100000 in
theorem C_copy_t {d n : Nat} {kd pl : Nat → Nat} {s : Nat → Int} {a : Nat → Int → Int} {c : Nat → cdt} {M : List va_E} {Q : Option Value → List va_E → Nat → Nat → Prop} {nc ns : Nat} {j m : Nat} {t : Int} (hW : wf n kd pl) (hj : j < 38 ∧ al n kd pl (60 + 2 * j)) (hm : m < 38 ∧ al n kd pl (60 + 2 * m)) (hjm : j ≠ m) (hok : okx (rm j) (c j)) (hl : md (c m) (rm m) []) (k : ∀ y, md y (rm m) ([] ++ rg (c j).2.2 (c j).1.toNat 0) → Q (some (.int (iI (s 0)))) (ch n kd pl (updS s 0 (s 0 + 1)) a (updC c m y) M) nc ns) : pm_E none (d + 2) pm_mm60 24 [(0, .ref (pl 0)), (1, .int (iI t)), (2, .ref (pl (60 + 2 * j))), (3, .ref (pl (60 + 2 * m)))] [] (ch n kd pl s a c M) nc ns Q := by
  refine pm_e_sim pm_a60_24 rfl ?_
  show pm_E _ _ _ 25 [(0, .ref (pl 0)), (1, .int (iI t)), (2, .ref (pl (60 + 2 * j))), (3, .ref (pl (60 + 2 * m)))] [.ref (pl (60 + 2 * m))] _ _ _ _
  refine pm_e_sim pm_a60_25 rfl ?_
  show pm_E _ _ _ 26 [(0, .ref (pl 0)), (1, .int (iI t)), (2, .ref (pl (60 + 2 * j))), (3, .ref (pl (60 + 2 * m)))] [.ref (pl (60 + 2 * j)), .ref (pl (60 + 2 * m))] _ _ _ _
  refine pm_i_callv (k := (pl (60 + 2 * m))) (T2 := pm_mm58) pm_a60_26 rfl rfl rfl (cg_o hm) ⟨Nat.le_of_ble_eq_true rfl, Nat.le_of_ble_eq_true rfl, rfl, by decide +kernel⟩ ?_
  show pm_E none _ _ 0 [(0, .ref (pl (60 + 2 * m))), (1, .ref (pl (60 + 2 * j)))] [] _ _ _ _
  refine C_putAll hW hm hj (l := []) rfl hok hl (fun y0 g0 => ?_)
  obtain ⟨_, _, _, _⟩ := id g0.1
  show pm_E _ _ _ 29 [(0, .ref (pl 0)), (1, .int (iI t)), (2, .ref (pl (60 + 2 * j))), (3, .ref (pl (60 + 2 * m)))] [] _ _ _ _
  refine pm_e_sim pm_a60_29 rfl ?_
  show pm_E _ _ _ 30 [(0, .ref (pl 0)), (1, .int (iI t)), (2, .ref (pl (60 + 2 * j))), (3, .ref (pl (60 + 2 * m)))] [.ref (pl 0)] _ _ _ _
  refine pm_i_callv (k := (pl 0)) (T2 := pm_mm42) pm_a60_30 rfl rfl rfl (cg_0 hW) ⟨Nat.le_of_ble_eq_true rfl, Nat.le_of_ble_eq_true rfl, rfl, by decide +kernel⟩ ?_
  show pm_E none _ _ 0 [(0, .ref (pl 0))] [] _ _ _ _
  refine C_keepFresh hW ?_
  show pm_E _ _ _ 33 [(0, .ref (pl 0)), (1, .int (iI t)), (2, .ref (pl (60 + 2 * j))), (3, .ref (pl (60 + 2 * m)))] [.int (iI (s 0))] _ _ _ _
  refine pm_e_ret pm_a60_33 rfl rfl rfl rfl rfl rfl rfl rfl ?_
  exact k _ g0
set_option maxHeartbeats 4000000 in
set_option maxRecDepth 100000 in
theorem C_apply_t {d n : Nat} {kd pl : Nat → Nat} {s : Nat → Int} {a : Nat → Int → Int} {c : Nat → cdt} {M : List va_E} {Q : Option Value → List va_E → Nat → Nat → Prop} {nc ns : Nat} {j u m : Nat} {t v : Int} (hW : wf n kd pl) (hj : j < 38 ∧ al n kd pl (60 + 2 * j)) (hu : u < 38 ∧ al n kd pl (60 + 2 * u)) (hm : m < 38 ∧ al n kd pl (60 + 2 * m)) (hjm : j ≠ m) (hum : u ≠ m) (hok : okx (rm j) (c j)) (hou : okx (rm u) (c u)) (hl : md (c m) (rm m) []) (k : ∀ y, md y (rm m) ([] ++ [0] ++ rg (c j).2.2 (c j).1.toNat 0 ++ rg (c u).2.2 (c u).1.toNat 0) → y.2.1 = 0 → Q (some (.int (iI (s 0)))) (ch n kd pl (updS s 0 (s 0 + 1)) a (updC c m y) M) nc ns) (k0 : ∀ y, md y (rm m) ([] ++ [0] ++ rg (c j).2.2 (c j).1.toNat 0 ++ rg (c u).2.2 (c u).1.toNat 0) → y.2.1 ≠ 0 → Q (some (.int (iI (-3)))) (ch n kd pl s a (updC c m y) M) nc ns) : pm_E none (d + 2) pm_mm57 38 [(0, .ref (pl 0)), (1, .int (iI t)), (2, .int (iI v)), (3, .ref (pl (60 + 2 * j))), (4, .ref (pl (60 + 2 * u))), (5, .ref (pl (60 + 2 * m)))] [] (ch n kd pl s a c M) nc ns Q := by
  refine pm_e_sim pm_a57_38 rfl ?_
  show pm_E _ _ _ 40 [(0, .ref (pl 0)), (1, .int (iI t)), (2, .int (iI v)), (3, .ref (pl (60 + 2 * j))), (4, .ref (pl (60 + 2 * u))), (5, .ref (pl (60 + 2 * m)))] [.ref (pl (60 + 2 * m))] _ _ _ _
  refine pm_e_sim pm_a57_40 rfl ?_
  refine pm_e_top (y := iI 0) (by decide +kernel) ?_
  show pm_E _ _ _ 41 [(0, .ref (pl 0)), (1, .int (iI t)), (2, .int (iI v)), (3, .ref (pl (60 + 2 * j))), (4, .ref (pl (60 + 2 * u))), (5, .ref (pl (60 + 2 * m)))] [.int (iI 0), .ref (pl (60 + 2 * m))] _ _ _ _
  refine pm_i_callv (k := (pl (60 + 2 * m))) (T2 := pm_mm40) pm_a57_41 rfl rfl rfl (cg_o hm) ⟨Nat.le_of_ble_eq_true rfl, Nat.le_of_ble_eq_true rfl, rfl, by decide +kernel⟩ ?_
  show pm_E none _ _ 0 [(0, .ref (pl (60 + 2 * m))), (1, .int (iI 0))] [] _ _ _ _
  refine C_put hW hm (l := []) hl (by decide) (fun y0 g0 => ?_)
  show pm_E _ _ _ 44 [(0, .ref (pl 0)), (1, .int (iI t)), (2, .int (iI v)), (3, .ref (pl (60 + 2 * j))), (4, .ref (pl (60 + 2 * u))), (5, .ref (pl (60 + 2 * m)))] [] _ _ _ _
  refine pm_e_sim pm_a57_44 rfl ?_
  show pm_E _ _ _ 46 [(0, .ref (pl 0)), (1, .int (iI t)), (2, .int (iI v)), (3, .ref (pl (60 + 2 * j))), (4, .ref (pl (60 + 2 * u))), (5, .ref (pl (60 + 2 * m)))] [.ref (pl (60 + 2 * m))] _ _ _ _
  refine pm_e_sim pm_a57_46 rfl ?_
  show pm_E _ _ _ 47 [(0, .ref (pl 0)), (1, .int (iI t)), (2, .int (iI v)), (3, .ref (pl (60 + 2 * j))), (4, .ref (pl (60 + 2 * u))), (5, .ref (pl (60 + 2 * m)))] [.ref (pl (60 + 2 * j)), .ref (pl (60 + 2 * m))] _ _ _ _
  refine pm_i_callv (k := (pl (60 + 2 * m))) (T2 := pm_mm58) pm_a57_47 rfl rfl rfl (cg_o hm) ⟨Nat.le_of_ble_eq_true rfl, Nat.le_of_ble_eq_true rfl, rfl, by decide +kernel⟩ ?_
  show pm_E none _ _ 0 [(0, .ref (pl (60 + 2 * m))), (1, .ref (pl (60 + 2 * j)))] [] _ _ _ _
  refine C_putAll hW hm hj (l := ([] ++ [0])) (updC_n hjm) hok (by rw [updC_at]; exact g0) (fun y1 g1 => ?_)
  rw [updC_s]
  obtain ⟨_, _, _, _⟩ := id g1.1
  show pm_E _ _ _ 50 [(0, .ref (pl 0)), (1, .int (iI t)), (2, .int (iI v)), (3, .ref (pl (60 + 2 * j))), (4, .ref (pl (60 + 2 * u))), (5, .ref (pl (60 + 2 * m)))] [] _ _ _ _
  refine pm_e_sim pm_a57_50 rfl ?_
  show pm_E _ _ _ 52 [(0, .ref (pl 0)), (1, .int (iI t)), (2, .int (iI v)), (3, .ref (pl (60 + 2 * j))), (4, .ref (pl (60 + 2 * u))), (5, .ref (pl (60 + 2 * m)))] [.ref (pl (60 + 2 * m))] _ _ _ _
  refine pm_e_sim pm_a57_52 rfl ?_
  show pm_E _ _ _ 54 [(0, .ref (pl 0)), (1, .int (iI t)), (2, .int (iI v)), (3, .ref (pl (60 + 2 * j))), (4, .ref (pl (60 + 2 * u))), (5, .ref (pl (60 + 2 * m)))] [.ref (pl (60 + 2 * u)), .ref (pl (60 + 2 * m))] _ _ _ _
  refine pm_i_callv (k := (pl (60 + 2 * m))) (T2 := pm_mm58) pm_a57_54 rfl rfl rfl (cg_o hm) ⟨Nat.le_of_ble_eq_true rfl, Nat.le_of_ble_eq_true rfl, rfl, by decide +kernel⟩ ?_
  show pm_E none _ _ 0 [(0, .ref (pl (60 + 2 * m))), (1, .ref (pl (60 + 2 * u)))] [] _ _ _ _
  refine C_putAll hW hm hu (l := (([] ++ [0]) ++ rg (c j).2.2 (c j).1.toNat 0)) (updC_n hum) hou (by rw [updC_at]; exact g1) (fun y2 g2 => ?_)
  rw [updC_s]
  obtain ⟨_, _, _, _⟩ := id g2.1
  show pm_E _ _ _ 57 [(0, .ref (pl 0)), (1, .int (iI t)), (2, .int (iI v)), (3, .ref (pl (60 + 2 * j))), (4, .ref (pl (60 + 2 * u))), (5, .ref (pl (60 + 2 * m)))] [] _ _ _ _
  refine pm_e_sim pm_a57_57 rfl ?_
  show pm_E _ _ _ 59 [(0, .ref (pl 0)), (1, .int (iI t)), (2, .int (iI v)), (3, .ref (pl (60 + 2 * j))), (4, .ref (pl (60 + 2 * u))), (5, .ref (pl (60 + 2 * m)))] [.ref (pl (60 + 2 * m))] _ _ _ _
  refine pm_i_get pm_a57_59 rfl (cg_o hm) rfl ?_
  refine pm_e_top (y := iI ((y2).2.1)) (congrArg (fun z : cdt => iI z.2.1) updC_at) ?_
  show pm_E _ _ _ 62 [(0, .ref (pl 0)), (1, .int (iI t)), (2, .int (iI v)), (3, .ref (pl (60 + 2 * j))), (4, .ref (pl (60 + 2 * u))), (5, .ref (pl (60 + 2 * m)))] [.int (iI ((y2).2.1))] _ _ _ _
  refine pm_i_eq (t := 70) pm_a57_62 rfl ⟨by omega, by omega⟩ (fun h_1 => ?_) (fun h_1 => ?_)
  · skip
    show pm_E _ _ _ 70 [(0, .ref (pl 0)), (1, .int (iI t)), (2, .int (iI v)), (3, .ref (pl (60 + 2 * j))), (4, .ref (pl (60 + 2 * u))), (5, .ref (pl (60 + 2 * m)))] [] _ _ _ _
    refine pm_e_sim pm_a57_70 rfl ?_
    show pm_E _ _ _ 71 [(0, .ref (pl 0)), (1, .int (iI t)), (2, .int (iI v)), (3, .ref (pl (60 + 2 * j))), (4, .ref (pl (60 + 2 * u))), (5, .ref (pl (60 + 2 * m)))] [.ref (pl 0)] _ _ _ _
    refine pm_i_callv (k := (pl 0)) (T2 := pm_mm42) pm_a57_71 rfl rfl rfl (cg_0 hW) ⟨Nat.le_of_ble_eq_true rfl, Nat.le_of_ble_eq_true rfl, rfl, by decide +kernel⟩ ?_
    show pm_E none _ _ 0 [(0, .ref (pl 0))] [] _ _ _ _
    refine C_keepFresh hW ?_
    show pm_E _ _ _ 74 [(0, .ref (pl 0)), (1, .int (iI t)), (2, .int (iI v)), (3, .ref (pl (60 + 2 * j))), (4, .ref (pl (60 + 2 * u))), (5, .ref (pl (60 + 2 * m)))] [.int (iI (s 0))] _ _ _ _
    refine pm_e_ret pm_a57_74 rfl rfl rfl rfl rfl rfl rfl rfl ?_
    exact k _ g2 (by omega)
  · skip
    show pm_E _ _ _ 65 [(0, .ref (pl 0)), (1, .int (iI t)), (2, .int (iI v)), (3, .ref (pl (60 + 2 * j))), (4, .ref (pl (60 + 2 * u))), (5, .ref (pl (60 + 2 * m)))] [] _ _ _ _
    refine pm_e_sim pm_a57_65 rfl ?_
    refine pm_e_top (y := iI (-3)) (by decide +kernel) ?_
    show pm_E _ _ _ 67 [(0, .ref (pl 0)), (1, .int (iI t)), (2, .int (iI v)), (3, .ref (pl (60 + 2 * j))), (4, .ref (pl (60 + 2 * u))), (5, .ref (pl (60 + 2 * m)))] [.int (iI (-3))] _ _ _ _
    refine pm_e_goto pm_a57_67 rfl ?_
    show pm_E _ _ _ 74 [(0, .ref (pl 0)), (1, .int (iI t)), (2, .int (iI v)), (3, .ref (pl (60 + 2 * j))), (4, .ref (pl (60 + 2 * u))), (5, .ref (pl (60 + 2 * m)))] [.int (iI (-3))] _ _ _ _
    refine pm_e_ret pm_a57_74 rfl rfl rfl rfl rfl rfl rfl rfl ?_
    exact k0 _ g2 (by omega)
