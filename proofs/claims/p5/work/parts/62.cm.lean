/-! THE CLASS: putTrial, read -/
set_option maxHeartbeats 4000000 in
set_option maxRecDepth 100000 in
theorem C_putTrial {d n : Nat} {kd pl : Nat → Nat} {s : Nat → Int} {a : Nat → Int → Int} {c : Nat → cdt} {M : List va_E} {Q : Option Value → List va_E → Nat → Nat → Prop} {j : Nat} {y : cdt} (hW : wf n kd pl) (hj : j < 38 ∧ al n kd pl (60 + 2 * j)) (hj0 : j ≠ 0) (hy : c j = y) (hok : okx (rm j) y) (ho0 : okx (rm 0) (c 0)) (k : ∀ z, md z (rm 0) ([] ++ [0] ++ [0] ++ rg y.2.2 y.1.toNat 0 ++ [5] ++ [6]) → Q none (ch n kd pl s a (updC c 0 z) M) 0 0) : pm_E none (d + 2) pm_mm108 0 [(0, .ref (pl 0)), (1, .ref (pl (60 + 2 * j)))] [] (ch n kd pl s a c M) 0 0 Q := by
  refine pm_e_sim pm_a108_0 rfl ?_
  show pm_E _ _ _ 1 [(0, .ref (pl 0)), (1, .ref (pl (60 + 2 * j)))] [.ref (pl 0)] _ _ _ _
  refine pm_i_get pm_a108_1 rfl (cg_0 hW) rfl ?_
  show pm_E _ _ _ 4 [(0, .ref (pl 0)), (1, .ref (pl (60 + 2 * j)))] [.ref (pl (60 + 2 * 0))] _ _ _ _
  refine pm_i_callv (k := (pl (60 + 2 * 0))) (T2 := pm_mm13) pm_a108_4 rfl rfl rfl (cg_o (cj0 hW)) ⟨Nat.le_of_ble_eq_true rfl, Nat.le_of_ble_eq_true rfl, rfl, by decide +kernel⟩ ?_
  show pm_E none _ _ 0 [(0, .ref (pl (60 + 2 * 0)))] [] _ _ _ _
  refine C_clear hW (cj0 hW) ho0 (fun y0 g0 => ?_)
  show pm_E _ _ _ 7 [(0, .ref (pl 0)), (1, .ref (pl (60 + 2 * j)))] [] _ _ _ _
  refine pm_e_sim pm_a108_7 rfl ?_
  show pm_E _ _ _ 8 [(0, .ref (pl 0)), (1, .ref (pl (60 + 2 * j)))] [.ref (pl 0)] _ _ _ _
  refine pm_i_get pm_a108_8 rfl (cg_0 hW) rfl ?_
  show pm_E _ _ _ 11 [(0, .ref (pl 0)), (1, .ref (pl (60 + 2 * j)))] [.ref (pl (60 + 2 * 0))] _ _ _ _
  refine pm_e_sim pm_a108_11 rfl ?_
  refine pm_e_top (y := iI 0) (by decide +kernel) ?_
  show pm_E _ _ _ 12 [(0, .ref (pl 0)), (1, .ref (pl (60 + 2 * j)))] [.int (iI 0), .ref (pl (60 + 2 * 0))] _ _ _ _
  refine pm_i_callv (k := (pl (60 + 2 * 0))) (T2 := pm_mm40) pm_a108_12 rfl rfl rfl (cg_o (cj0 hW)) ⟨Nat.le_of_ble_eq_true rfl, Nat.le_of_ble_eq_true rfl, rfl, by decide +kernel⟩ ?_
  show pm_E none _ _ 0 [(0, .ref (pl (60 + 2 * 0))), (1, .int (iI 0))] [] _ _ _ _
  refine C_put hW (cj0 hW) (l := []) (by rw [updC_at]; exact g0) (by decide) (fun y_1 g_1 => ?_)
  rw [updC_s]
  show pm_E _ _ _ 15 [(0, .ref (pl 0)), (1, .ref (pl (60 + 2 * j)))] [] _ _ _ _
  refine pm_e_sim pm_a108_15 rfl ?_
  show pm_E _ _ _ 16 [(0, .ref (pl 0)), (1, .ref (pl (60 + 2 * j)))] [.ref (pl 0)] _ _ _ _
  refine pm_i_get pm_a108_16 rfl (cg_0 hW) rfl ?_
  show pm_E _ _ _ 19 [(0, .ref (pl 0)), (1, .ref (pl (60 + 2 * j)))] [.ref (pl (60 + 2 * 0))] _ _ _ _
  refine pm_e_sim pm_a108_19 rfl ?_
  refine pm_e_top (y := iI 0) (by decide +kernel) ?_
  show pm_E _ _ _ 20 [(0, .ref (pl 0)), (1, .ref (pl (60 + 2 * j)))] [.int (iI 0), .ref (pl (60 + 2 * 0))] _ _ _ _
  refine pm_i_callv (k := (pl (60 + 2 * 0))) (T2 := pm_mm40) pm_a108_20 rfl rfl rfl (cg_o (cj0 hW)) ⟨Nat.le_of_ble_eq_true rfl, Nat.le_of_ble_eq_true rfl, rfl, by decide +kernel⟩ ?_
  show pm_E none _ _ 0 [(0, .ref (pl (60 + 2 * 0))), (1, .int (iI 0))] [] _ _ _ _
  refine C_put hW (cj0 hW) (l := ([] ++ [0])) (by rw [updC_at]; exact g_1) (by decide) (fun y_2 g_2 => ?_)
  rw [updC_s]
  show pm_E _ _ _ 23 [(0, .ref (pl 0)), (1, .ref (pl (60 + 2 * j)))] [] _ _ _ _
  refine pm_e_sim pm_a108_23 rfl ?_
  show pm_E _ _ _ 24 [(0, .ref (pl 0)), (1, .ref (pl (60 + 2 * j)))] [.ref (pl 0)] _ _ _ _
  refine pm_i_get pm_a108_24 rfl (cg_0 hW) rfl ?_
  show pm_E _ _ _ 27 [(0, .ref (pl 0)), (1, .ref (pl (60 + 2 * j)))] [.ref (pl (60 + 2 * 0))] _ _ _ _
  refine pm_e_sim pm_a108_27 rfl ?_
  show pm_E _ _ _ 28 [(0, .ref (pl 0)), (1, .ref (pl (60 + 2 * j)))] [.ref (pl (60 + 2 * j)), .ref (pl (60 + 2 * 0))] _ _ _ _
  refine pm_i_callv (k := (pl (60 + 2 * 0))) (T2 := pm_mm58) pm_a108_28 rfl rfl rfl (cg_o (cj0 hW)) ⟨Nat.le_of_ble_eq_true rfl, Nat.le_of_ble_eq_true rfl, rfl, by decide +kernel⟩ ?_
  show pm_E none _ _ 0 [(0, .ref (pl (60 + 2 * 0))), (1, .ref (pl (60 + 2 * j)))] [] _ _ _ _
  refine C_putAll hW (cj0 hW) hj (y := y) (l := (([] ++ [0]) ++ [0])) ((updC_n hj0).trans hy) hok (by rw [updC_at]; exact g_2) (fun y_3 g_3 => ?_)
  rw [updC_s]
  show pm_E _ _ _ 31 [(0, .ref (pl 0)), (1, .ref (pl (60 + 2 * j)))] [] _ _ _ _
  refine pm_e_sim pm_a108_31 rfl ?_
  show pm_E _ _ _ 32 [(0, .ref (pl 0)), (1, .ref (pl (60 + 2 * j)))] [.ref (pl 0)] _ _ _ _
  refine pm_i_get pm_a108_32 rfl (cg_0 hW) rfl ?_
  show pm_E _ _ _ 35 [(0, .ref (pl 0)), (1, .ref (pl (60 + 2 * j)))] [.ref (pl (60 + 2 * 0))] _ _ _ _
  refine pm_e_sim pm_a108_35 rfl ?_
  refine pm_e_top (y := iI 5) (by decide +kernel) ?_
  show pm_E _ _ _ 36 [(0, .ref (pl 0)), (1, .ref (pl (60 + 2 * j)))] [.int (iI 5), .ref (pl (60 + 2 * 0))] _ _ _ _
  refine pm_i_callv (k := (pl (60 + 2 * 0))) (T2 := pm_mm40) pm_a108_36 rfl rfl rfl (cg_o (cj0 hW)) ⟨Nat.le_of_ble_eq_true rfl, Nat.le_of_ble_eq_true rfl, rfl, by decide +kernel⟩ ?_
  show pm_E none _ _ 0 [(0, .ref (pl (60 + 2 * 0))), (1, .int (iI 5))] [] _ _ _ _
  refine C_put hW (cj0 hW) (l := ((([] ++ [0]) ++ [0]) ++ rg y.2.2 y.1.toNat 0)) (by rw [updC_at]; exact g_3) (by decide) (fun y_4 g_4 => ?_)
  rw [updC_s]
  show pm_E _ _ _ 39 [(0, .ref (pl 0)), (1, .ref (pl (60 + 2 * j)))] [] _ _ _ _
  refine pm_e_sim pm_a108_39 rfl ?_
  show pm_E _ _ _ 40 [(0, .ref (pl 0)), (1, .ref (pl (60 + 2 * j)))] [.ref (pl 0)] _ _ _ _
  refine pm_i_get pm_a108_40 rfl (cg_0 hW) rfl ?_
  show pm_E _ _ _ 43 [(0, .ref (pl 0)), (1, .ref (pl (60 + 2 * j)))] [.ref (pl (60 + 2 * 0))] _ _ _ _
  refine pm_e_sim pm_a108_43 rfl ?_
  refine pm_e_top (y := iI 6) (by decide +kernel) ?_
  show pm_E _ _ _ 45 [(0, .ref (pl 0)), (1, .ref (pl (60 + 2 * j)))] [.int (iI 6), .ref (pl (60 + 2 * 0))] _ _ _ _
  refine pm_i_callv (k := (pl (60 + 2 * 0))) (T2 := pm_mm40) pm_a108_45 rfl rfl rfl (cg_o (cj0 hW)) ⟨Nat.le_of_ble_eq_true rfl, Nat.le_of_ble_eq_true rfl, rfl, by decide +kernel⟩ ?_
  show pm_E none _ _ 0 [(0, .ref (pl (60 + 2 * 0))), (1, .int (iI 6))] [] _ _ _ _
  refine C_put hW (cj0 hW) (l := (((([] ++ [0]) ++ [0]) ++ rg y.2.2 y.1.toNat 0) ++ [5])) (by rw [updC_at]; exact g_4) (by decide) (fun y_5 g_5 => ?_)
  rw [updC_s]
  show pm_E _ _ _ 48 [(0, .ref (pl 0)), (1, .ref (pl (60 + 2 * j)))] [] _ _ _ _
  refine pm_e_ret pm_a108_48 rfl rfl rfl rfl rfl rfl rfl rfl ?_
  exact k _ g_5
theorem tL_tri {f : Nat} {l : List Int} (t : tL f 0 l) : ∃ F, tL F 0 ([] ++ [0] ++ [0] ++ l ++ [5] ++ [6]) := by
  obtain ⟨f, rfl⟩ : ∃ g, f = g + 1 := by
    cases f with
    | zero => exact t.elim
    | succ f => exact ⟨f, rfl⟩
  refine ⟨f + 1 + 1 + 1, Or.inl ⟨0 :: (l ++ [5]), [6], by simp, Or.inl ⟨l, [5], rfl, t, Or.inr (Or.inr ⟨5, rfl, by omega, by omega⟩)⟩, Or.inr (Or.inr ⟨6, rfl, by omega, by omega⟩)⟩⟩
set_option maxHeartbeats 4000000 in
set_option maxRecDepth 100000 in
theorem C_read_l {d n : Nat} {kd pl : Nat → Nat} {s : Nat → Int} {M : List va_E} {Q : Option Value → List va_E → Nat → Nat → Prop} {j : Nat} {t m : Int} (hW : wf n kd pl) (hj : j < 38 ∧ al n kd pl (60 + 2 * j)) (hm : 0 ≤ m ∧ m ≤ 200) : ∀ (f : Nat) (q i : Int) (a : Nat → Int → Int) (c : Nat → cdt) (l : List Int), 0 ≤ i → i ≤ m → (q = 0 ∨ q = -3 ∨ q = 1) → md (c 0) (rm 0) l → l.length ≤ 500 → (∃ f, tL f 0 l) → okx (rm 1) (c 1) → (∀ q, in32 (a 1 q)) → (∀ a' c' r, rdq (m - i).toNat q l r → shM a a' → (∀ i, i ≠ 0 → i ≠ 1 → c' i = c i) → okx (rm 0) (c' 0) → okx (rm 1) (c' 1) → Q (some (.int (iI r))) (ch n kd pl s a' c' M) 0 0) → m - i < (f : Int) → pm_E none (d + 7) pm_mm107 45 [(0, .ref (pl 0)), (1, .int (iI t)), (2, .int (iI m)), (3, .ref (pl (60 + 2 * j))), (4, .int (iI q)), (5, .int (iI i))] [] (ch n kd pl s a c M) 0 0 Q := by
  intro f
  induction f with
  | zero =>
    intro q i a c l hi0 hi1 hq hl hlen htL ho1 hin k hf
    exfalso; omega
  | succ f ih =>
    intro q i a c l hi0 hi1 hq hl hlen htL ho1 hin k hf
    have r0 : rm 0 = 500 := rfl
    refine pm_e_sim pm_a107_45 rfl ?_
    show pm_E _ _ _ 47 [(0, .ref (pl 0)), (1, .int (iI t)), (2, .int (iI m)), (3, .ref (pl (60 + 2 * j))), (4, .int (iI q)), (5, .int (iI i))] [.int (iI i)] _ _ _ _
    refine pm_e_sim pm_a107_47 rfl ?_
    show pm_E _ _ _ 48 [(0, .ref (pl 0)), (1, .int (iI t)), (2, .int (iI m)), (3, .ref (pl (60 + 2 * j))), (4, .int (iI q)), (5, .int (iI i))] [.int (iI m), .int (iI i)] _ _ _ _
    refine pm_c_ge (t := 77) pm_a107_48 rfl ⟨by omega, by omega⟩ ⟨by omega, by omega⟩ (fun h_1 => ?_) (fun h_1 => ?_)
    · skip
      show pm_E _ _ _ 77 [(0, .ref (pl 0)), (1, .int (iI t)), (2, .int (iI m)), (3, .ref (pl (60 + 2 * j))), (4, .int (iI q)), (5, .int (iI i))] [] _ _ _ _
      refine pm_e_sim pm_a107_77 rfl ?_
      show pm_E _ _ _ 79 [(0, .ref (pl 0)), (1, .int (iI t)), (2, .int (iI m)), (3, .ref (pl (60 + 2 * j))), (4, .int (iI q)), (5, .int (iI i))] [.int (iI q)] _ _ _ _
      refine pm_e_sim pm_a107_79 rfl ?_
      refine pm_e_top (y := iI (-3)) (by decide +kernel) ?_
      show pm_E _ _ _ 81 [(0, .ref (pl 0)), (1, .int (iI t)), (2, .int (iI m)), (3, .ref (pl (60 + 2 * j))), (4, .int (iI q)), (5, .int (iI i))] [.int (iI (-3)), .int (iI q)] _ _ _ _
      refine pm_c_ne (t := 87) pm_a107_81 rfl ⟨by omega, by omega⟩ ⟨by omega, by omega⟩ (fun h_2 => ?_) (fun h_2 => ?_)
      · skip
        show pm_E _ _ _ 87 [(0, .ref (pl 0)), (1, .int (iI t)), (2, .int (iI m)), (3, .ref (pl (60 + 2 * j))), (4, .int (iI q)), (5, .int (iI i))] [] _ _ _ _
        refine pm_e_sim pm_a107_87 rfl ?_
        show pm_E _ _ _ 88 [(0, .ref (pl 0)), (1, .int (iI t)), (2, .int (iI m)), (3, .ref (pl (60 + 2 * j))), (4, .int (iI q)), (5, .int (iI i))] [.ref (pl 0)] _ _ _ _
        refine pm_i_get pm_a107_88 rfl (cg_0 hW) rfl ?_
        show pm_E _ _ _ 91 [(0, .ref (pl 0)), (1, .int (iI t)), (2, .int (iI m)), (3, .ref (pl (60 + 2 * j))), (4, .int (iI q)), (5, .int (iI i))] [.ref (pl 15)] _ _ _ _
        refine pm_e_sim pm_a107_91 rfl ?_
        show pm_E _ _ _ 92 [(0, .ref (pl 0)), (1, .int (iI t)), (2, .int (iI m)), (3, .ref (pl (60 + 2 * j))), (4, .int (iI q)), (5, .int (iI i))] [.ref (pl 0), .ref (pl 15)] _ _ _ _
        refine pm_i_get pm_a107_92 rfl (cg_0 hW) rfl ?_
        show pm_E _ _ _ 95 [(0, .ref (pl 0)), (1, .int (iI t)), (2, .int (iI m)), (3, .ref (pl (60 + 2 * j))), (4, .int (iI q)), (5, .int (iI i))] [.ref (pl (60 + 2 * 0)), .ref (pl 15)] _ _ _ _
        refine pm_e_sim pm_a107_95 rfl ?_
        refine pm_e_top (y := iI 0) (by decide +kernel) ?_
        show pm_E _ _ _ 96 [(0, .ref (pl 0)), (1, .int (iI t)), (2, .int (iI m)), (3, .ref (pl (60 + 2 * j))), (4, .int (iI q)), (5, .int (iI i))] [.int (iI 0), .ref (pl (60 + 2 * 0)), .ref (pl 15)] _ _ _ _
        refine pm_i_callv (k := (pl 15)) (T2 := pm_mm66) pm_a107_96 rfl rfl rfl (cg_15 hW) ⟨Nat.le_of_ble_eq_true rfl, Nat.le_of_ble_eq_true rfl, rfl, by decide +kernel⟩ ?_
        show pm_E none _ _ 0 [(0, .ref (pl 15)), (1, .ref (pl (60 + 2 * 0))), (2, .int (iI 0))] [] _ _ _ _
        obtain ⟨ft, htl⟩ := htL
        obtain ⟨ovj, zj, gj⟩ : (c 0).2.1 = 0 ∧ (c 0).1 = l.length ∧ rg (c 0).2.2 l.length 0 = l := by rcases hl.2 with ⟨_, h1, h2, h3⟩ | ⟨h, _⟩; exact ⟨h1, h2, h3⟩; omega
        have htm := tL_tm0 htl gj
        rw [← zj] at htm
        refine C_place (w := 0) hW (cj0 hW) rfl hl.1 hin htm ⟨by omega, by omega⟩ (fun a1 r hm hn => ?_)
        have hrb : -4 ≤ r ∧ r < (c 0).1 := by rcases hn with ⟨z, _⟩ | ⟨z, y, _⟩ <;> omega
        obtain ⟨_, p2, _, _⟩ := id hl.1
        show pm_E _ _ _ 99 [(0, .ref (pl 0)), (1, .int (iI t)), (2, .int (iI m)), (3, .ref (pl (60 + 2 * j))), (4, .int (iI q)), (5, .int (iI i))] [.int (iI r)] _ _ _ _
        refine pm_e_sim pm_a107_99 rfl ?_
        refine pm_e_top (y := iI (-4)) (by decide +kernel) ?_
        show pm_E _ _ _ 101 [(0, .ref (pl 0)), (1, .int (iI t)), (2, .int (iI m)), (3, .ref (pl (60 + 2 * j))), (4, .int (iI q)), (5, .int (iI i))] [.int (iI (-4)), .int (iI r)] _ _ _ _
        refine pm_c_ne (t := 114) pm_a107_101 rfl ⟨by omega, by omega⟩ ⟨by omega, by omega⟩ (fun h_3 => ?_) (fun h_3 => ?_)
        · skip
          show pm_E _ _ _ 114 [(0, .ref (pl 0)), (1, .int (iI t)), (2, .int (iI m)), (3, .ref (pl (60 + 2 * j))), (4, .int (iI q)), (5, .int (iI i))] [] _ _ _ _
          refine pm_e_sim pm_a107_114 rfl ?_
          refine pm_e_top (y := iI (-2)) (by decide +kernel) ?_
          show pm_E _ _ _ 116 [(0, .ref (pl 0)), (1, .int (iI t)), (2, .int (iI m)), (3, .ref (pl (60 + 2 * j))), (4, .int (iI q)), (5, .int (iI i))] [.int (iI (-2))] _ _ _ _
          refine pm_e_ret pm_a107_116 rfl rfl rfl rfl rfl rfl rfl rfl ?_
          exact k a1 c _ (rdq_n (fun z => by omega) (by omega) ⟨(c 0).2.2, gj, Or.inl ⟨by rcases hn with ⟨h, _⟩ | ⟨h, h1, h2, _⟩; omega; exact ⟨r, h, by omega, cnd_0.mp h2⟩, rfl⟩⟩) hm (fun _ _ _ => rfl) hl.1 ho1
        · skip
          show pm_E _ _ _ 104 [(0, .ref (pl 0)), (1, .int (iI t)), (2, .int (iI m)), (3, .ref (pl (60 + 2 * j))), (4, .int (iI q)), (5, .int (iI i))] [] _ _ _ _
          refine pm_e_sim pm_a107_104 rfl ?_
          show pm_E _ _ _ 105 [(0, .ref (pl 0)), (1, .int (iI t)), (2, .int (iI m)), (3, .ref (pl (60 + 2 * j))), (4, .int (iI q)), (5, .int (iI i))] [.ref (pl 0)] _ _ _ _
          refine pm_i_get pm_a107_105 rfl (cg_0 hW) rfl ?_
          show pm_E _ _ _ 108 [(0, .ref (pl 0)), (1, .int (iI t)), (2, .int (iI m)), (3, .ref (pl (60 + 2 * j))), (4, .int (iI q)), (5, .int (iI i))] [.ref (pl (60 + 2 * 0))] _ _ _ _
          refine pm_e_call (T2 := pm_mm105) pm_a107_108 rfl rfl rfl rfl rfl rfl rfl rfl rfl ?_
          show pm_E none _ _ 0 [(0, .ref (pl (60 + 2 * 0)))] [] _ _ _ _
          refine C_numberOf hW (cj0 hW) hl.1 htm (fun r9 hr9 hn9 => ?_)
          show pm_E _ _ _ 111 [(0, .ref (pl 0)), (1, .int (iI t)), (2, .int (iI m)), (3, .ref (pl (60 + 2 * j))), (4, .int (iI q)), (5, .int (iI i))] [.int (iI r9)] _ _ _ _
          refine pm_e_goto pm_a107_111 rfl ?_
          show pm_E _ _ _ 116 [(0, .ref (pl 0)), (1, .int (iI t)), (2, .int (iI m)), (3, .ref (pl (60 + 2 * j))), (4, .int (iI q)), (5, .int (iI i))] [.int (iI r9)] _ _ _ _
          refine pm_e_ret pm_a107_116 rfl rfl rfl rfl rfl rfl rfl rfl ?_
          exact k a1 c _ (rdq_n (fun z => by omega) (by omega) ⟨(c 0).2.2, gj, Or.inr ⟨by rcases hn with ⟨_, h⟩ | ⟨h, _⟩; exact fun p p0 p1 z => h p p0 (by omega) (cnd_0.mpr z); omega, by rw [← zj]; exact hn9⟩⟩) hm (fun _ _ _ => rfl) hl.1 ho1
      · skip
        show pm_E _ _ _ 84 [(0, .ref (pl 0)), (1, .int (iI t)), (2, .int (iI m)), (3, .ref (pl (60 + 2 * j))), (4, .int (iI q)), (5, .int (iI i))] [] _ _ _ _
        refine pm_e_sim pm_a107_84 rfl ?_
        refine pm_e_top (y := iI (-3)) (by decide +kernel) ?_
        show pm_E _ _ _ 86 [(0, .ref (pl 0)), (1, .int (iI t)), (2, .int (iI m)), (3, .ref (pl (60 + 2 * j))), (4, .int (iI q)), (5, .int (iI i))] [.int (iI (-3))] _ _ _ _
        refine pm_e_ret pm_a107_86 rfl rfl rfl rfl rfl rfl rfl rfl ?_
        exact k a c _ (rdq_3 (by omega)) (shM_r hin) (fun _ _ _ => rfl) hl.1 ho1
    · skip
      show pm_E _ _ _ 51 [(0, .ref (pl 0)), (1, .int (iI t)), (2, .int (iI m)), (3, .ref (pl (60 + 2 * j))), (4, .int (iI q)), (5, .int (iI i))] [] _ _ _ _
      refine pm_e_sim pm_a107_51 rfl ?_
      show pm_E _ _ _ 53 [(0, .ref (pl 0)), (1, .int (iI t)), (2, .int (iI m)), (3, .ref (pl (60 + 2 * j))), (4, .int (iI q)), (5, .int (iI i))] [.int (iI q)] _ _ _ _
      refine pm_e_sim pm_a107_53 rfl ?_
      refine pm_e_top (y := iI 1) (by decide +kernel) ?_
      show pm_E _ _ _ 54 [(0, .ref (pl 0)), (1, .int (iI t)), (2, .int (iI m)), (3, .ref (pl (60 + 2 * j))), (4, .int (iI q)), (5, .int (iI i))] [.int (iI 1), .int (iI q)] _ _ _ _
      refine pm_c_ne (t := 77) pm_a107_54 rfl ⟨by omega, by omega⟩ ⟨by omega, by omega⟩ (fun h_4 => ?_) (fun h_4 => ?_)
      · skip
        show pm_E _ _ _ 77 [(0, .ref (pl 0)), (1, .int (iI t)), (2, .int (iI m)), (3, .ref (pl (60 + 2 * j))), (4, .int (iI q)), (5, .int (iI i))] [] _ _ _ _
        refine pm_e_sim pm_a107_77 rfl ?_
        show pm_E _ _ _ 79 [(0, .ref (pl 0)), (1, .int (iI t)), (2, .int (iI m)), (3, .ref (pl (60 + 2 * j))), (4, .int (iI q)), (5, .int (iI i))] [.int (iI q)] _ _ _ _
        refine pm_e_sim pm_a107_79 rfl ?_
        refine pm_e_top (y := iI (-3)) (by decide +kernel) ?_
        show pm_E _ _ _ 81 [(0, .ref (pl 0)), (1, .int (iI t)), (2, .int (iI m)), (3, .ref (pl (60 + 2 * j))), (4, .int (iI q)), (5, .int (iI i))] [.int (iI (-3)), .int (iI q)] _ _ _ _
        refine pm_c_ne (t := 87) pm_a107_81 rfl ⟨by omega, by omega⟩ ⟨by omega, by omega⟩ (fun h_5 => ?_) (fun h_5 => ?_)
        · skip
          show pm_E _ _ _ 87 [(0, .ref (pl 0)), (1, .int (iI t)), (2, .int (iI m)), (3, .ref (pl (60 + 2 * j))), (4, .int (iI q)), (5, .int (iI i))] [] _ _ _ _
          refine pm_e_sim pm_a107_87 rfl ?_
          show pm_E _ _ _ 88 [(0, .ref (pl 0)), (1, .int (iI t)), (2, .int (iI m)), (3, .ref (pl (60 + 2 * j))), (4, .int (iI q)), (5, .int (iI i))] [.ref (pl 0)] _ _ _ _
          refine pm_i_get pm_a107_88 rfl (cg_0 hW) rfl ?_
          show pm_E _ _ _ 91 [(0, .ref (pl 0)), (1, .int (iI t)), (2, .int (iI m)), (3, .ref (pl (60 + 2 * j))), (4, .int (iI q)), (5, .int (iI i))] [.ref (pl 15)] _ _ _ _
          refine pm_e_sim pm_a107_91 rfl ?_
          show pm_E _ _ _ 92 [(0, .ref (pl 0)), (1, .int (iI t)), (2, .int (iI m)), (3, .ref (pl (60 + 2 * j))), (4, .int (iI q)), (5, .int (iI i))] [.ref (pl 0), .ref (pl 15)] _ _ _ _
          refine pm_i_get pm_a107_92 rfl (cg_0 hW) rfl ?_
          show pm_E _ _ _ 95 [(0, .ref (pl 0)), (1, .int (iI t)), (2, .int (iI m)), (3, .ref (pl (60 + 2 * j))), (4, .int (iI q)), (5, .int (iI i))] [.ref (pl (60 + 2 * 0)), .ref (pl 15)] _ _ _ _
          refine pm_e_sim pm_a107_95 rfl ?_
          refine pm_e_top (y := iI 0) (by decide +kernel) ?_
          show pm_E _ _ _ 96 [(0, .ref (pl 0)), (1, .int (iI t)), (2, .int (iI m)), (3, .ref (pl (60 + 2 * j))), (4, .int (iI q)), (5, .int (iI i))] [.int (iI 0), .ref (pl (60 + 2 * 0)), .ref (pl 15)] _ _ _ _
          refine pm_i_callv (k := (pl 15)) (T2 := pm_mm66) pm_a107_96 rfl rfl rfl (cg_15 hW) ⟨Nat.le_of_ble_eq_true rfl, Nat.le_of_ble_eq_true rfl, rfl, by decide +kernel⟩ ?_
          show pm_E none _ _ 0 [(0, .ref (pl 15)), (1, .ref (pl (60 + 2 * 0))), (2, .int (iI 0))] [] _ _ _ _
          obtain ⟨ft, htl⟩ := htL
          obtain ⟨ovj, zj, gj⟩ : (c 0).2.1 = 0 ∧ (c 0).1 = l.length ∧ rg (c 0).2.2 l.length 0 = l := by rcases hl.2 with ⟨_, h1, h2, h3⟩ | ⟨h, _⟩; exact ⟨h1, h2, h3⟩; omega
          have htm := tL_tm0 htl gj
          rw [← zj] at htm
          refine C_place (w := 0) hW (cj0 hW) rfl hl.1 hin htm ⟨by omega, by omega⟩ (fun a1 r hm hn => ?_)
          have hrb : -4 ≤ r ∧ r < (c 0).1 := by rcases hn with ⟨z, _⟩ | ⟨z, y, _⟩ <;> omega
          obtain ⟨_, p2, _, _⟩ := id hl.1
          show pm_E _ _ _ 99 [(0, .ref (pl 0)), (1, .int (iI t)), (2, .int (iI m)), (3, .ref (pl (60 + 2 * j))), (4, .int (iI q)), (5, .int (iI i))] [.int (iI r)] _ _ _ _
          refine pm_e_sim pm_a107_99 rfl ?_
          refine pm_e_top (y := iI (-4)) (by decide +kernel) ?_
          show pm_E _ _ _ 101 [(0, .ref (pl 0)), (1, .int (iI t)), (2, .int (iI m)), (3, .ref (pl (60 + 2 * j))), (4, .int (iI q)), (5, .int (iI i))] [.int (iI (-4)), .int (iI r)] _ _ _ _
          refine pm_c_ne (t := 114) pm_a107_101 rfl ⟨by omega, by omega⟩ ⟨by omega, by omega⟩ (fun h_6 => ?_) (fun h_6 => ?_)
          · skip
            show pm_E _ _ _ 114 [(0, .ref (pl 0)), (1, .int (iI t)), (2, .int (iI m)), (3, .ref (pl (60 + 2 * j))), (4, .int (iI q)), (5, .int (iI i))] [] _ _ _ _
            refine pm_e_sim pm_a107_114 rfl ?_
            refine pm_e_top (y := iI (-2)) (by decide +kernel) ?_
            show pm_E _ _ _ 116 [(0, .ref (pl 0)), (1, .int (iI t)), (2, .int (iI m)), (3, .ref (pl (60 + 2 * j))), (4, .int (iI q)), (5, .int (iI i))] [.int (iI (-2))] _ _ _ _
            refine pm_e_ret pm_a107_116 rfl rfl rfl rfl rfl rfl rfl rfl ?_
            exact k a1 c _ (rdq_n (fun z => by omega) (by omega) ⟨(c 0).2.2, gj, Or.inl ⟨by rcases hn with ⟨h, _⟩ | ⟨h, h1, h2, _⟩; omega; exact ⟨r, h, by omega, cnd_0.mp h2⟩, rfl⟩⟩) hm (fun _ _ _ => rfl) hl.1 ho1
          · skip
            show pm_E _ _ _ 104 [(0, .ref (pl 0)), (1, .int (iI t)), (2, .int (iI m)), (3, .ref (pl (60 + 2 * j))), (4, .int (iI q)), (5, .int (iI i))] [] _ _ _ _
            refine pm_e_sim pm_a107_104 rfl ?_
            show pm_E _ _ _ 105 [(0, .ref (pl 0)), (1, .int (iI t)), (2, .int (iI m)), (3, .ref (pl (60 + 2 * j))), (4, .int (iI q)), (5, .int (iI i))] [.ref (pl 0)] _ _ _ _
            refine pm_i_get pm_a107_105 rfl (cg_0 hW) rfl ?_
            show pm_E _ _ _ 108 [(0, .ref (pl 0)), (1, .int (iI t)), (2, .int (iI m)), (3, .ref (pl (60 + 2 * j))), (4, .int (iI q)), (5, .int (iI i))] [.ref (pl (60 + 2 * 0))] _ _ _ _
            refine pm_e_call (T2 := pm_mm105) pm_a107_108 rfl rfl rfl rfl rfl rfl rfl rfl rfl ?_
            show pm_E none _ _ 0 [(0, .ref (pl (60 + 2 * 0)))] [] _ _ _ _
            refine C_numberOf hW (cj0 hW) hl.1 htm (fun r9 hr9 hn9 => ?_)
            show pm_E _ _ _ 111 [(0, .ref (pl 0)), (1, .int (iI t)), (2, .int (iI m)), (3, .ref (pl (60 + 2 * j))), (4, .int (iI q)), (5, .int (iI i))] [.int (iI r9)] _ _ _ _
            refine pm_e_goto pm_a107_111 rfl ?_
            show pm_E _ _ _ 116 [(0, .ref (pl 0)), (1, .int (iI t)), (2, .int (iI m)), (3, .ref (pl (60 + 2 * j))), (4, .int (iI q)), (5, .int (iI i))] [.int (iI r9)] _ _ _ _
            refine pm_e_ret pm_a107_116 rfl rfl rfl rfl rfl rfl rfl rfl ?_
            exact k a1 c _ (rdq_n (fun z => by omega) (by omega) ⟨(c 0).2.2, gj, Or.inr ⟨by rcases hn with ⟨_, h⟩ | ⟨h, _⟩; exact fun p p0 p1 z => h p p0 (by omega) (cnd_0.mpr z); omega, by rw [← zj]; exact hn9⟩⟩) hm (fun _ _ _ => rfl) hl.1 ho1
        · skip
          show pm_E _ _ _ 84 [(0, .ref (pl 0)), (1, .int (iI t)), (2, .int (iI m)), (3, .ref (pl (60 + 2 * j))), (4, .int (iI q)), (5, .int (iI i))] [] _ _ _ _
          refine pm_e_sim pm_a107_84 rfl ?_
          refine pm_e_top (y := iI (-3)) (by decide +kernel) ?_
          show pm_E _ _ _ 86 [(0, .ref (pl 0)), (1, .int (iI t)), (2, .int (iI m)), (3, .ref (pl (60 + 2 * j))), (4, .int (iI q)), (5, .int (iI i))] [.int (iI (-3))] _ _ _ _
          refine pm_e_ret pm_a107_86 rfl rfl rfl rfl rfl rfl rfl rfl ?_
          exact k a c _ (rdq_3 (by omega)) (shM_r hin) (fun _ _ _ => rfl) hl.1 ho1
      · skip
        show pm_E _ _ _ 57 [(0, .ref (pl 0)), (1, .int (iI t)), (2, .int (iI m)), (3, .ref (pl (60 + 2 * j))), (4, .int (iI q)), (5, .int (iI i))] [] _ _ _ _
        refine pm_e_sim pm_a107_57 rfl ?_
        show pm_E _ _ _ 58 [(0, .ref (pl 0)), (1, .int (iI t)), (2, .int (iI m)), (3, .ref (pl (60 + 2 * j))), (4, .int (iI q)), (5, .int (iI i))] [.ref (pl 0)] _ _ _ _
        refine pm_i_get pm_a107_58 rfl (cg_0 hW) rfl ?_
        show pm_E _ _ _ 61 [(0, .ref (pl 0)), (1, .int (iI t)), (2, .int (iI m)), (3, .ref (pl (60 + 2 * j))), (4, .int (iI q)), (5, .int (iI i))] [.ref (pl 15)] _ _ _ _
        refine pm_e_sim pm_a107_61 rfl ?_
        show pm_E _ _ _ 62 [(0, .ref (pl 0)), (1, .int (iI t)), (2, .int (iI m)), (3, .ref (pl (60 + 2 * j))), (4, .int (iI q)), (5, .int (iI i))] [.ref (pl 0), .ref (pl 15)] _ _ _ _
        refine pm_i_get pm_a107_62 rfl (cg_0 hW) rfl ?_
        show pm_E _ _ _ 65 [(0, .ref (pl 0)), (1, .int (iI t)), (2, .int (iI m)), (3, .ref (pl (60 + 2 * j))), (4, .int (iI q)), (5, .int (iI i))] [.ref (pl (60 + 2 * 0)), .ref (pl 15)] _ _ _ _
        refine pm_e_sim pm_a107_65 rfl ?_
        refine pm_e_top (y := iI 0) (by decide +kernel) ?_
        show pm_E _ _ _ 66 [(0, .ref (pl 0)), (1, .int (iI t)), (2, .int (iI m)), (3, .ref (pl (60 + 2 * j))), (4, .int (iI q)), (5, .int (iI i))] [.int (iI 0), .ref (pl (60 + 2 * 0)), .ref (pl 15)] _ _ _ _
        refine pm_i_callv (k := (pl 15)) (T2 := pm_mm65) pm_a107_66 rfl rfl rfl (cg_15 hW) ⟨Nat.le_of_ble_eq_true rfl, Nat.le_of_ble_eq_true rfl, rfl, by decide +kernel⟩ ?_
        show pm_E none _ _ 0 [(0, .ref (pl 15)), (1, .ref (pl (60 + 2 * 0))), (2, .int (iI 0))] [] _ _ _ _
        obtain ⟨ft, htl⟩ := htL
        refine C_turn (w := 0) hW (cj0 hW) (by decide) (by decide) hl hlen htl ho1 hin ⟨by omega, by omega⟩ (fun a1 c1 r l1 z1 z2 z3 z4 z5 z6 => ?_)
        have hr := stp_r z6
        have hst := stp_ok htl hlen z6
        show pm_E _ _ _ 69 [(0, .ref (pl 0)), (1, .int (iI t)), (2, .int (iI m)), (3, .ref (pl (60 + 2 * j))), (4, .int (iI q)), (5, .int (iI i))] [.int (iI r)] _ _ _ _
        refine pm_e_sim pm_a107_69 rfl ?_
        show pm_E _ _ _ 71 [(0, .ref (pl 0)), (1, .int (iI t)), (2, .int (iI m)), (3, .ref (pl (60 + 2 * j))), (4, .int (iI r)), (5, .int (iI i))] [] _ _ _ _
        refine pm_e_inc (y := iI (i + 1)) pm_a107_71 rfl (iI_add _ _) (by decide +kernel) rfl ?_
        show pm_E _ _ _ 74 [(0, .ref (pl 0)), (1, .int (iI t)), (2, .int (iI m)), (3, .ref (pl (60 + 2 * j))), (4, .int (iI r)), (5, .int (iI (i + 1)))] [] _ _ _ _
        refine pm_e_goto pm_a107_74 rfl ?_
        show pm_E _ _ _ 45 [(0, .ref (pl 0)), (1, .int (iI t)), (2, .int (iI m)), (3, .ref (pl (60 + 2 * j))), (4, .int (iI r)), (5, .int (iI (i + 1)))] [] _ _ _ _
        exact ih r _ a1 c1 l1 (by omega) (by omega) hr z4 z5 hst.2 z3 z1.2 (fun a2 c2 r2 y0 y1 y2 y3 y4 => k a2 c2 r2 (by rw [show (m - i).toNat = (m - (i + 1)).toNat + 1 by omega]; exact rdq_s (by omega) z6 y0) (shM_t z1 y1) (fun x x0 x1 => by rw [y2 x x0 x1, z2 x x1 x0]) y3 y4) (by omega)
set_option maxHeartbeats 4000000 in
set_option maxRecDepth 100000 in
theorem C_read {d n : Nat} {kd pl : Nat → Nat} {s : Nat → Int} {a : Nat → Int → Int} {c : Nat → cdt} {M : List va_E} {Q : Option Value → List va_E → Nat → Nat → Prop} {N : Int} {T : Int → List Int} {t m : Int} (hW : wf n kd pl) (hS : cS n kd pl s c N T) (hT : ∀ t, 0 ≤ t → t < N → (T t).length ≤ 500 ∧ ∃ f, tL f 0 (T t)) (ht : in32 t) (hm : in32 m) (hin : ∀ q, in32 (a 1 q)) (ho0 : okx (rm 0) (c 0)) (ho1 : okx (rm 1) (c 1)) (kb : (t < 0 ∨ N ≤ t ∨ m < 0 ∨ 200 < m) → Q (some (.int (iI (-1)))) (ch n kd pl s a c M) 0 0) (kf : 0 ≤ t → t < N → 0 ≤ m → m ≤ 200 → 500 < (T t).length + 4 → ∀ a' c', shM a a' → (∀ i, i ≠ 0 → i ≠ 1 → c' i = c i) → okx (rm 0) (c' 0) → okx (rm 1) (c' 1) → Q (some (.int (iI (-3)))) (ch n kd pl s a' c' M) 0 0) (k : 0 ≤ t → t < N → 0 ≤ m → m ≤ 200 → (T t).length + 4 ≤ 500 → ∀ a' c' r, rdR m.toNat ([] ++ [0] ++ [0] ++ T t ++ [5] ++ [6]) r → shM a a' → (∀ i, i ≠ 0 → i ≠ 1 → c' i = c i) → okx (rm 0) (c' 0) → okx (rm 1) (c' 1) → Q (some (.int (iI r))) (ch n kd pl s a' c' M) 0 0) : pm_E none (d + 7) pm_mm107 0 [(0, .ref (pl 0)), (1, .int (iI t)), (2, .int (iI m))] [] (ch n kd pl s a c M) 0 0 Q := by
  obtain ⟨hS1, hS2, hS3, hS4⟩ := id hS
  obtain ⟨_, _⟩ := id ht
  obtain ⟨_, _⟩ := id hm
  refine pm_e_sim pm_a107_0 rfl ?_
  show pm_E _ _ _ 1 [(0, .ref (pl 0)), (1, .int (iI t)), (2, .int (iI m))] [.ref (pl 0)] _ _ _ _
  refine pm_e_sim pm_a107_1 rfl ?_
  show pm_E _ _ _ 2 [(0, .ref (pl 0)), (1, .int (iI t)), (2, .int (iI m))] [.int (iI t), .ref (pl 0)] _ _ _ _
  refine pm_i_callv (k := (pl 0)) (T2 := pm_mm45) pm_a107_2 rfl rfl rfl (cg_0 hW) ⟨Nat.le_of_ble_eq_true rfl, Nat.le_of_ble_eq_true rfl, rfl, by decide +kernel⟩ ?_
  show pm_E none _ _ 0 [(0, .ref (pl 0)), (1, .int (iI t))] [] _ _ _ _
  refine C_termAt hW hS ⟨by omega, by omega⟩ (fun t0j t1j j ej hj lj => ?_) (fun t9j => ?_)
  · skip
    have rbj := rm_b j
    have rmj : rm j = 500 := if_neg (by omega)
    obtain ⟨hlj, _⟩ := hT t (by omega) (by omega)
    obtain ⟨ovj, zj, gj⟩ : (c j).2.1 = 0 ∧ (c j).1 = (T t).length ∧ rg (c j).2.2 (T t).length 0 = T t := by rcases lj.2 with ⟨_, h1, h2, h3⟩ | ⟨h, _⟩; exact ⟨h1, h2, h3⟩; omega
    show pm_E _ _ _ 5 [(0, .ref (pl 0)), (1, .int (iI t)), (2, .int (iI m))] [.ref (pl (60 + 2 * j))] _ _ _ _
    refine pm_e_sim pm_a107_5 rfl ?_
    show pm_E _ _ _ 6 [(0, .ref (pl 0)), (1, .int (iI t)), (2, .int (iI m)), (3, .ref (pl (60 + 2 * j)))] [] _ _ _ _
    refine pm_e_sim pm_a107_6 rfl ?_
    show pm_E _ _ _ 7 [(0, .ref (pl 0)), (1, .int (iI t)), (2, .int (iI m)), (3, .ref (pl (60 + 2 * j)))] [.ref (pl (60 + 2 * j))] _ _ _ _
    refine pm_e_jmp pm_a107_7 rfl rfl ?_
    show pm_E _ _ _ 10 [(0, .ref (pl 0)), (1, .int (iI t)), (2, .int (iI m)), (3, .ref (pl (60 + 2 * j)))] [] _ _ _ _
    refine pm_e_sim pm_a107_10 rfl ?_
    show pm_E _ _ _ 11 [(0, .ref (pl 0)), (1, .int (iI t)), (2, .int (iI m)), (3, .ref (pl (60 + 2 * j)))] [.int (iI m)] _ _ _ _
    refine pm_e_call (T2 := pm_mm88) pm_a107_11 rfl rfl rfl rfl rfl rfl rfl rfl rfl ?_
    show pm_E none _ _ 0 [(0, .int (iI m))] [] _ _ _ _
    refine C_isFuel ⟨by omega, by omega⟩ (fun _ _ => ?_) (fun _ => ?_)
    · skip
      show pm_E _ _ _ 14 [(0, .ref (pl 0)), (1, .int (iI t)), (2, .int (iI m)), (3, .ref (pl (60 + 2 * j)))] [.int (iI 1)] _ _ _ _
      refine pm_e_ift pm_a107_14 rfl (by decide +kernel) ?_
      show pm_E _ _ _ 19 [(0, .ref (pl 0)), (1, .int (iI t)), (2, .int (iI m)), (3, .ref (pl (60 + 2 * j)))] [] _ _ _ _
      refine pm_e_sim pm_a107_19 rfl ?_
      show pm_E _ _ _ 20 [(0, .ref (pl 0)), (1, .int (iI t)), (2, .int (iI m)), (3, .ref (pl (60 + 2 * j)))] [.ref (pl 0)] _ _ _ _
      refine pm_e_sim pm_a107_20 rfl ?_
      show pm_E _ _ _ 21 [(0, .ref (pl 0)), (1, .int (iI t)), (2, .int (iI m)), (3, .ref (pl (60 + 2 * j)))] [.ref (pl (60 + 2 * j)), .ref (pl 0)] _ _ _ _
      refine pm_i_callv (k := (pl 0)) (T2 := pm_mm108) pm_a107_21 rfl rfl rfl (cg_0 hW) ⟨Nat.le_of_ble_eq_true rfl, Nat.le_of_ble_eq_true rfl, rfl, by decide +kernel⟩ ?_
      show pm_E none _ _ 0 [(0, .ref (pl 0)), (1, .ref (pl (60 + 2 * j)))] [] _ _ _ _
      refine C_putTrial hW hj (by omega) rfl lj.1 ho0 (fun z hz => ?_)
      rw [zj, show ((T t).length : Int).toNat = (T t).length by omega, gj] at hz
      obtain ⟨p1, p2, p3, p4⟩ := id hz.1
      show pm_E _ _ _ 24 [(0, .ref (pl 0)), (1, .int (iI t)), (2, .int (iI m)), (3, .ref (pl (60 + 2 * j)))] [] _ _ _ _
      refine pm_e_sim pm_a107_24 rfl ?_
      show pm_E _ _ _ 25 [(0, .ref (pl 0)), (1, .int (iI t)), (2, .int (iI m)), (3, .ref (pl (60 + 2 * j)))] [.ref (pl 0)] _ _ _ _
      refine pm_i_get pm_a107_25 rfl (cg_0 hW) rfl ?_
      show pm_E _ _ _ 28 [(0, .ref (pl 0)), (1, .int (iI t)), (2, .int (iI m)), (3, .ref (pl (60 + 2 * j)))] [.ref (pl (60 + 2 * 0))] _ _ _ _
      refine pm_i_get pm_a107_28 rfl (cg_o (cj0 hW)) rfl ?_
      refine pm_e_top (y := iI ((z).2.1)) (congrArg (fun z : cdt => iI z.2.1) updC_at) ?_
      show pm_E _ _ _ 31 [(0, .ref (pl 0)), (1, .int (iI t)), (2, .int (iI m)), (3, .ref (pl (60 + 2 * j)))] [.int (iI ((z).2.1))] _ _ _ _
      refine pm_i_eq (t := 39) pm_a107_31 rfl ⟨by omega, by omega⟩ (fun h_1 => ?_) (fun h_1 => ?_)
      · skip
        show pm_E _ _ _ 39 [(0, .ref (pl 0)), (1, .int (iI t)), (2, .int (iI m)), (3, .ref (pl (60 + 2 * j)))] [] _ _ _ _
        refine pm_e_sim pm_a107_39 rfl ?_
        refine pm_e_top (y := iI 1) (by decide +kernel) ?_
        show pm_E _ _ _ 40 [(0, .ref (pl 0)), (1, .int (iI t)), (2, .int (iI m)), (3, .ref (pl (60 + 2 * j)))] [.int (iI 1)] _ _ _ _
        refine pm_e_sim pm_a107_40 rfl ?_
        show pm_E _ _ _ 42 [(0, .ref (pl 0)), (1, .int (iI t)), (2, .int (iI m)), (3, .ref (pl (60 + 2 * j))), (4, .int (iI 1))] [] _ _ _ _
        refine pm_e_sim pm_a107_42 rfl ?_
        refine pm_e_top (y := iI 0) (by decide +kernel) ?_
        show pm_E _ _ _ 43 [(0, .ref (pl 0)), (1, .int (iI t)), (2, .int (iI m)), (3, .ref (pl (60 + 2 * j))), (4, .int (iI 1))] [.int (iI 0)] _ _ _ _
        refine pm_e_sim pm_a107_43 rfl ?_
        show pm_E _ _ _ 45 [(0, .ref (pl 0)), (1, .int (iI t)), (2, .int (iI m)), (3, .ref (pl (60 + 2 * j))), (4, .int (iI 1)), (5, .int (iI 0))] [] _ _ _ _
        obtain ⟨_, ft, htl⟩ := hT t (by omega) (by omega)
        have hzl : ([] ++ [0] ++ [0] ++ T t ++ [5] ++ [6]).length ≤ 500 := by rcases hz.2 with ⟨h, _⟩ | ⟨_, h⟩; exact h; omega
        refine C_read_l hW hj ⟨by omega, by omega⟩ (m.toNat + 1) 1 0 a _ _ (by omega) (by omega) (by omega) (by rw [updC_at]; exact hz) hzl (tL_tri htl) (by rw [updC_n (by decide)]; exact ho1) hin (fun a2 c2 r2 y0 y1 y2 y3 y4 => k (by omega) (by omega) (by omega) (by omega) (by simp at hzl; omega) a2 c2 r2 (by rw [Int.sub_zero] at y0; rcases y0 with ⟨_, y0⟩ | ⟨y0, _⟩; exact y0; exact absurd rfl y0) y1 (fun x x0 x1 => by rw [y2 x x0 x1, updC_n x0]) y3 y4) (by omega)
      · skip
        show pm_E _ _ _ 34 [(0, .ref (pl 0)), (1, .int (iI t)), (2, .int (iI m)), (3, .ref (pl (60 + 2 * j)))] [] _ _ _ _
        refine pm_e_sim pm_a107_34 rfl ?_
        refine pm_e_top (y := iI (-3)) (by decide +kernel) ?_
        show pm_E _ _ _ 36 [(0, .ref (pl 0)), (1, .int (iI t)), (2, .int (iI m)), (3, .ref (pl (60 + 2 * j)))] [.int (iI (-3))] _ _ _ _
        refine pm_e_goto pm_a107_36 rfl ?_
        show pm_E _ _ _ 40 [(0, .ref (pl 0)), (1, .int (iI t)), (2, .int (iI m)), (3, .ref (pl (60 + 2 * j)))] [.int (iI (-3))] _ _ _ _
        refine pm_e_sim pm_a107_40 rfl ?_
        show pm_E _ _ _ 42 [(0, .ref (pl 0)), (1, .int (iI t)), (2, .int (iI m)), (3, .ref (pl (60 + 2 * j))), (4, .int (iI (-3)))] [] _ _ _ _
        refine pm_e_sim pm_a107_42 rfl ?_
        refine pm_e_top (y := iI 0) (by decide +kernel) ?_
        show pm_E _ _ _ 43 [(0, .ref (pl 0)), (1, .int (iI t)), (2, .int (iI m)), (3, .ref (pl (60 + 2 * j))), (4, .int (iI (-3)))] [.int (iI 0)] _ _ _ _
        refine pm_e_sim pm_a107_43 rfl ?_
        show pm_E _ _ _ 45 [(0, .ref (pl 0)), (1, .int (iI t)), (2, .int (iI m)), (3, .ref (pl (60 + 2 * j))), (4, .int (iI (-3))), (5, .int (iI 0))] [] _ _ _ _
        refine pm_e_sim pm_a107_45 rfl ?_
        show pm_E _ _ _ 47 [(0, .ref (pl 0)), (1, .int (iI t)), (2, .int (iI m)), (3, .ref (pl (60 + 2 * j))), (4, .int (iI (-3))), (5, .int (iI 0))] [.int (iI 0)] _ _ _ _
        refine pm_e_sim pm_a107_47 rfl ?_
        show pm_E _ _ _ 48 [(0, .ref (pl 0)), (1, .int (iI t)), (2, .int (iI m)), (3, .ref (pl (60 + 2 * j))), (4, .int (iI (-3))), (5, .int (iI 0))] [.int (iI m), .int (iI 0)] _ _ _ _
        refine pm_c_ge (t := 77) pm_a107_48 rfl ⟨by omega, by omega⟩ ⟨by omega, by omega⟩ (fun h_61 => ?_) (fun h_61 => ?_)
        · skip
          show pm_E _ _ _ 77 [(0, .ref (pl 0)), (1, .int (iI t)), (2, .int (iI m)), (3, .ref (pl (60 + 2 * j))), (4, .int (iI (-3))), (5, .int (iI 0))] [] _ _ _ _
          refine pm_e_sim pm_a107_77 rfl ?_
          show pm_E _ _ _ 79 [(0, .ref (pl 0)), (1, .int (iI t)), (2, .int (iI m)), (3, .ref (pl (60 + 2 * j))), (4, .int (iI (-3))), (5, .int (iI 0))] [.int (iI (-3))] _ _ _ _
          refine pm_e_sim pm_a107_79 rfl ?_
          refine pm_e_top (y := iI (-3)) (by decide +kernel) ?_
          show pm_E _ _ _ 81 [(0, .ref (pl 0)), (1, .int (iI t)), (2, .int (iI m)), (3, .ref (pl (60 + 2 * j))), (4, .int (iI (-3))), (5, .int (iI 0))] [.int (iI (-3)), .int (iI (-3))] _ _ _ _
          refine pm_e_icf pm_a107_81 rfl (by decide +kernel) ?_
          show pm_E _ _ _ 84 [(0, .ref (pl 0)), (1, .int (iI t)), (2, .int (iI m)), (3, .ref (pl (60 + 2 * j))), (4, .int (iI (-3))), (5, .int (iI 0))] [] _ _ _ _
          refine pm_e_sim pm_a107_84 rfl ?_
          refine pm_e_top (y := iI (-3)) (by decide +kernel) ?_
          show pm_E _ _ _ 86 [(0, .ref (pl 0)), (1, .int (iI t)), (2, .int (iI m)), (3, .ref (pl (60 + 2 * j))), (4, .int (iI (-3))), (5, .int (iI 0))] [.int (iI (-3))] _ _ _ _
          refine pm_e_ret pm_a107_86 rfl rfl rfl rfl rfl rfl rfl rfl ?_
          exact kf (by omega) (by omega) (by omega) (by omega) (by have r0 : rm 0 = 500 := rfl; rcases hz.2 with ⟨_, h, _⟩ | ⟨h, _⟩; omega; simp at h; omega) a _ (shM_r hin) (fun x x0 x1 => by rw [updC_n x0]) (by rw [updC_at]; exact hz.1) (by rw [updC_n (by decide)]; exact ho1)
        · skip
          show pm_E _ _ _ 51 [(0, .ref (pl 0)), (1, .int (iI t)), (2, .int (iI m)), (3, .ref (pl (60 + 2 * j))), (4, .int (iI (-3))), (5, .int (iI 0))] [] _ _ _ _
          refine pm_e_sim pm_a107_51 rfl ?_
          show pm_E _ _ _ 53 [(0, .ref (pl 0)), (1, .int (iI t)), (2, .int (iI m)), (3, .ref (pl (60 + 2 * j))), (4, .int (iI (-3))), (5, .int (iI 0))] [.int (iI (-3))] _ _ _ _
          refine pm_e_sim pm_a107_53 rfl ?_
          refine pm_e_top (y := iI 1) (by decide +kernel) ?_
          show pm_E _ _ _ 54 [(0, .ref (pl 0)), (1, .int (iI t)), (2, .int (iI m)), (3, .ref (pl (60 + 2 * j))), (4, .int (iI (-3))), (5, .int (iI 0))] [.int (iI 1), .int (iI (-3))] _ _ _ _
          refine pm_e_ict pm_a107_54 rfl (by decide +kernel) ?_
          show pm_E _ _ _ 77 [(0, .ref (pl 0)), (1, .int (iI t)), (2, .int (iI m)), (3, .ref (pl (60 + 2 * j))), (4, .int (iI (-3))), (5, .int (iI 0))] [] _ _ _ _
          refine pm_e_sim pm_a107_77 rfl ?_
          show pm_E _ _ _ 79 [(0, .ref (pl 0)), (1, .int (iI t)), (2, .int (iI m)), (3, .ref (pl (60 + 2 * j))), (4, .int (iI (-3))), (5, .int (iI 0))] [.int (iI (-3))] _ _ _ _
          refine pm_e_sim pm_a107_79 rfl ?_
          refine pm_e_top (y := iI (-3)) (by decide +kernel) ?_
          show pm_E _ _ _ 81 [(0, .ref (pl 0)), (1, .int (iI t)), (2, .int (iI m)), (3, .ref (pl (60 + 2 * j))), (4, .int (iI (-3))), (5, .int (iI 0))] [.int (iI (-3)), .int (iI (-3))] _ _ _ _
          refine pm_e_icf pm_a107_81 rfl (by decide +kernel) ?_
          show pm_E _ _ _ 84 [(0, .ref (pl 0)), (1, .int (iI t)), (2, .int (iI m)), (3, .ref (pl (60 + 2 * j))), (4, .int (iI (-3))), (5, .int (iI 0))] [] _ _ _ _
          refine pm_e_sim pm_a107_84 rfl ?_
          refine pm_e_top (y := iI (-3)) (by decide +kernel) ?_
          show pm_E _ _ _ 86 [(0, .ref (pl 0)), (1, .int (iI t)), (2, .int (iI m)), (3, .ref (pl (60 + 2 * j))), (4, .int (iI (-3))), (5, .int (iI 0))] [.int (iI (-3))] _ _ _ _
          refine pm_e_ret pm_a107_86 rfl rfl rfl rfl rfl rfl rfl rfl ?_
          exact kf (by omega) (by omega) (by omega) (by omega) (by have r0 : rm 0 = 500 := rfl; rcases hz.2 with ⟨_, h, _⟩ | ⟨h, _⟩; omega; simp at h; omega) a _ (shM_r hin) (fun x x0 x1 => by rw [updC_n x0]) (by rw [updC_at]; exact hz.1) (by rw [updC_n (by decide)]; exact ho1)
    · skip
      show pm_E _ _ _ 14 [(0, .ref (pl 0)), (1, .int (iI t)), (2, .int (iI m)), (3, .ref (pl (60 + 2 * j)))] [.int (iI 0)] _ _ _ _
      refine pm_e_iff pm_a107_14 rfl (by decide +kernel) ?_
      show pm_E _ _ _ 17 [(0, .ref (pl 0)), (1, .int (iI t)), (2, .int (iI m)), (3, .ref (pl (60 + 2 * j)))] [] _ _ _ _
      refine pm_e_sim pm_a107_17 rfl ?_
      refine pm_e_top (y := iI (-1)) (by decide +kernel) ?_
      show pm_E _ _ _ 18 [(0, .ref (pl 0)), (1, .int (iI t)), (2, .int (iI m)), (3, .ref (pl (60 + 2 * j)))] [.int (iI (-1))] _ _ _ _
      refine pm_e_ret pm_a107_18 rfl rfl rfl rfl rfl rfl rfl rfl ?_
      exact kb (by omega)
  · skip
    show pm_E _ _ _ 5 [(0, .ref (pl 0)), (1, .int (iI t)), (2, .int (iI m))] [.null] _ _ _ _
    refine pm_e_sim pm_a107_5 rfl ?_
    show pm_E _ _ _ 6 [(0, .ref (pl 0)), (1, .int (iI t)), (2, .int (iI m)), (3, .null)] [] _ _ _ _
    refine pm_e_sim pm_a107_6 rfl ?_
    show pm_E _ _ _ 7 [(0, .ref (pl 0)), (1, .int (iI t)), (2, .int (iI m)), (3, .null)] [.null] _ _ _ _
    refine pm_e_jmp pm_a107_7 rfl rfl ?_
    show pm_E _ _ _ 17 [(0, .ref (pl 0)), (1, .int (iI t)), (2, .int (iI m)), (3, .null)] [] _ _ _ _
    refine pm_e_sim pm_a107_17 rfl ?_
    refine pm_e_top (y := iI (-1)) (by decide +kernel) ?_
    show pm_E _ _ _ 18 [(0, .ref (pl 0)), (1, .int (iI t)), (2, .int (iI m)), (3, .null)] [.int (iI (-1))] _ _ _ _
    refine pm_e_ret pm_a107_18 rfl rfl rfl rfl rfl rfl rfl rfl ?_
    exact kb (by omega)
