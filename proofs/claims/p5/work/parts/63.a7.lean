/-! THE CLASS: abstracted from where the Abstracter stands -/
set_option maxHeartbeats 4000000 in
set_option maxRecDepth 100000 in
theorem C_abs_t {d n : Nat} {kd pl : Nat → Nat} {s : Nat → Int} {a : Nat → Int → Int} {c : Nat → cdt} {M : List va_E} {Q : Option Value → List va_E → Nat → Nat → Prop} {nc ns : Nat} {j m : Nat} {t : Int} {l : List Int} {f : Nat} (hW : wf n kd pl) (h200 : al n kd pl 200) (hj : j < 38 ∧ al n kd pl (60 + 2 * j)) (hm : m < 38 ∧ al n kd pl (60 + 2 * m)) (hj2 : j ≠ 2) (hj3 : j ≠ 3) (hm2 : m ≠ 2) (hm3 : m ≠ 3) (hin1 : ∀ q, in32 (a 1 q)) (hin7 : ∀ q, in32 (a 7 q)) (ho2 : okx (rm 2) (c 2)) (ho3 : okx (rm 3) (c 3)) (hl : md (c j) (rm j) l) (hlen : l.length ≤ 500) (ht : tL f 0 l) (hm0 : md (c m) (rm m) []) (k1 : ∀ s' a' c' z l' n', frA s a c s' a' c' → md z (rm m) l' → l'.length ≤ 500 → abR n' l (some l') → Q (some (.int (iI (s' 0)))) (ch n kd pl (updS s' 0 (s' 0 + 1)) a' (updC c' m z) M) nc ns) (k0 : ∀ s' a' c' z n', frA s a c s' a' c' → okx (rm m) z → abR n' l none → Q (some (.int (iI (-3)))) (ch n kd pl s' a' (updC c' m z) M) nc ns) : pm_E none (d + 5) pm_mm93 46 [(0, .ref (pl 0)), (1, .int (iI t)), (2, .ref (pl (60 + 2 * j))), (3, .ref (pl (60 + 2 * m)))] [] (ch n kd pl s a c M) nc ns Q := by
  refine pm_e_sim pm_a93_46 rfl ?_
  show pm_E _ _ _ 47 [(0, .ref (pl 0)), (1, .int (iI t)), (2, .ref (pl (60 + 2 * j))), (3, .ref (pl (60 + 2 * m)))] [.ref (pl 0)] _ _ _ _
  refine pm_i_get pm_a93_47 rfl (cg_0 hW) rfl ?_
  show pm_E _ _ _ _ _ (vo (pl 200) :: _) _ _ _ _
  rw [vo_al hW h200 (by decide)]
  show pm_E _ _ _ 50 [(0, .ref (pl 0)), (1, .int (iI t)), (2, .ref (pl (60 + 2 * j))), (3, .ref (pl (60 + 2 * m)))] [.ref (pl 200)] _ _ _ _
  refine pm_e_sim pm_a93_50 rfl ?_
  show pm_E _ _ _ 51 [(0, .ref (pl 0)), (1, .int (iI t)), (2, .ref (pl (60 + 2 * j))), (3, .ref (pl (60 + 2 * m)))] [.ref (pl (60 + 2 * j)), .ref (pl 200)] _ _ _ _
  refine pm_e_sim pm_a93_51 rfl ?_
  show pm_E _ _ _ 52 [(0, .ref (pl 0)), (1, .int (iI t)), (2, .ref (pl (60 + 2 * j))), (3, .ref (pl (60 + 2 * m)))] [.ref (pl (60 + 2 * m)), .ref (pl (60 + 2 * j)), .ref (pl 200)] _ _ _ _
  refine pm_i_callv (k := (pl 200)) (T2 := pm_mm95) pm_a93_52 rfl rfl rfl (cg_200 hW h200) ⟨Nat.le_of_ble_eq_true rfl, Nat.le_of_ble_eq_true rfl, rfl, by decide +kernel⟩ ?_
  show pm_E none _ _ 0 [(0, .ref (pl 200)), (1, .ref (pl (60 + 2 * j))), (2, .ref (pl (60 + 2 * m)))] [] _ _ _ _
  refine C_abstractInto hW h200 hj hm hj2 hj3 hm2 hm3 hin1 hin7 ho2 ho3 hl hlen ht hm0 (fun s1 a1 c1 z l1 n1 f1 z1 z2 z3 => ?_) (fun s1 a1 c1 z n1 f1 z1 z3 => ?_)
  · skip
    show pm_E _ _ _ 55 [(0, .ref (pl 0)), (1, .int (iI t)), (2, .ref (pl (60 + 2 * j))), (3, .ref (pl (60 + 2 * m)))] [.int (iI 1)] _ _ _ _
    refine pm_e_iff pm_a93_55 rfl (by decide +kernel) ?_
    show pm_E _ _ _ 58 [(0, .ref (pl 0)), (1, .int (iI t)), (2, .ref (pl (60 + 2 * j))), (3, .ref (pl (60 + 2 * m)))] [] _ _ _ _
    refine pm_e_sim pm_a93_58 rfl ?_
    show pm_E _ _ _ 59 [(0, .ref (pl 0)), (1, .int (iI t)), (2, .ref (pl (60 + 2 * j))), (3, .ref (pl (60 + 2 * m)))] [.ref (pl 0)] _ _ _ _
    refine pm_i_callv (k := (pl 0)) (T2 := pm_mm42) pm_a93_59 rfl rfl rfl (cg_0 hW) ⟨Nat.le_of_ble_eq_true rfl, Nat.le_of_ble_eq_true rfl, rfl, by decide +kernel⟩ ?_
    show pm_E none _ _ 0 [(0, .ref (pl 0))] [] _ _ _ _
    refine C_keepFresh hW ?_
    show pm_E _ _ _ 62 [(0, .ref (pl 0)), (1, .int (iI t)), (2, .ref (pl (60 + 2 * j))), (3, .ref (pl (60 + 2 * m)))] [.int (iI (s1 0))] _ _ _ _
    refine pm_e_goto pm_a93_62 rfl ?_
    show pm_E _ _ _ 67 [(0, .ref (pl 0)), (1, .int (iI t)), (2, .ref (pl (60 + 2 * j))), (3, .ref (pl (60 + 2 * m)))] [.int (iI (s1 0))] _ _ _ _
    refine pm_e_ret pm_a93_67 rfl rfl rfl rfl rfl rfl rfl rfl ?_
    exact k1 _ _ _ _ _ _ f1 z1 z2 z3
  · skip
    show pm_E _ _ _ 55 [(0, .ref (pl 0)), (1, .int (iI t)), (2, .ref (pl (60 + 2 * j))), (3, .ref (pl (60 + 2 * m)))] [.int (iI 0)] _ _ _ _
    refine pm_e_ift pm_a93_55 rfl (by decide +kernel) ?_
    show pm_E _ _ _ 65 [(0, .ref (pl 0)), (1, .int (iI t)), (2, .ref (pl (60 + 2 * j))), (3, .ref (pl (60 + 2 * m)))] [] _ _ _ _
    refine pm_e_sim pm_a93_65 rfl ?_
    refine pm_e_top (y := iI (-3)) (by decide +kernel) ?_
    show pm_E _ _ _ 67 [(0, .ref (pl 0)), (1, .int (iI t)), (2, .ref (pl (60 + 2 * j))), (3, .ref (pl (60 + 2 * m)))] [.int (iI (-3))] _ _ _ _
    refine pm_e_ret pm_a93_67 rfl rfl rfl rfl rfl rfl rfl rfl ?_
    exact k0 _ _ _ _ _ f1 z1 z3
