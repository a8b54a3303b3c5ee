/-! THE CLASS: told; Abstracter: heldAt, hold, putLowered, countMet, isMet -/
set_option maxHeartbeats 4000000 in
set_option maxRecDepth 100000 in
theorem C_told {d n : Nat} {kd pl : Nat → Nat} {s : Nat → Int} {a : Nat → Int → Int} {c : Nat → cdt} {M : List va_E} {Q : Option Value → List va_E → Nat → Nat → Prop} {x : Int} (hW : wf n kd pl) (hx : in32 x) (k : ∀ r, (x = 0 → r = s 2) → (x = 1 → r = s 3) → (x ≠ 0 → x ≠ 1 → r = -1) → Q (some (.int (iI r))) (ch n kd pl s a c M) 0 0) : pm_E none d pm_mm89 0 [(0, .ref (pl 0)), (1, .int (iI x))] [] (ch n kd pl s a c M) 0 0 Q := by
  obtain ⟨_, _⟩ := id hx
  refine pm_e_sim pm_a89_0 rfl ?_
  show pm_E _ _ _ 1 [(0, .ref (pl 0)), (1, .int (iI x))] [.int (iI x)] _ _ _ _
  by_cases h_1 : x = 0
  · skip
    refine pm_e_top (y := iI 0) (congrArg iI h_1) ?_
    refine pm_e_tsi (t := 28) pm_a89_1 rfl rfl ?_
    show pm_E _ _ _ 28 [(0, .ref (pl 0)), (1, .int (iI x))] [] _ _ _ _
    refine pm_e_sim pm_a89_28 rfl ?_
    show pm_E _ _ _ 29 [(0, .ref (pl 0)), (1, .int (iI x))] [.ref (pl 0)] _ _ _ _
    refine pm_i_get pm_a89_29 rfl (cg_0 hW) rfl ?_
    show pm_E _ _ _ 32 [(0, .ref (pl 0)), (1, .int (iI x))] [.int (iI (s 2))] _ _ _ _
    refine pm_e_ret pm_a89_32 rfl rfl rfl rfl rfl rfl rfl rfl ?_
    exact k _ (fun z => by omega) (fun z => by omega) (fun z y => by omega)
  by_cases h_2 : x = 1
  · skip
    refine pm_e_top (y := iI 1) (congrArg iI h_2) ?_
    refine pm_e_tsi (t := 33) pm_a89_1 rfl rfl ?_
    show pm_E _ _ _ 33 [(0, .ref (pl 0)), (1, .int (iI x))] [] _ _ _ _
    refine pm_e_sim pm_a89_33 rfl ?_
    show pm_E _ _ _ 34 [(0, .ref (pl 0)), (1, .int (iI x))] [.ref (pl 0)] _ _ _ _
    refine pm_i_get pm_a89_34 rfl (cg_0 hW) rfl ?_
    show pm_E _ _ _ 37 [(0, .ref (pl 0)), (1, .int (iI x))] [.int (iI (s 3))] _ _ _ _
    refine pm_e_ret pm_a89_37 rfl rfl rfl rfl rfl rfl rfl rfl ?_
    exact k _ (fun z => by omega) (fun z => by omega) (fun z y => by omega)
  refine pm_e_lko (t := 38) pm_a89_1 (by decide +kernel) (by show Op.lookupswitch.offset [(0, 27), (1, 32)] _ _ = _; rw [iI_t ⟨by omega, by omega⟩, Op.lookupswitch.offset_cons, if_neg (by omega), Op.lookupswitch.offset_cons, if_neg (by omega)]) rfl ?_
  show pm_E _ _ _ 38 [(0, .ref (pl 0)), (1, .int (iI x))] [] _ _ _ _
  refine pm_e_sim pm_a89_38 rfl ?_
  refine pm_e_top (y := iI (-1)) (by decide +kernel) ?_
  show pm_E _ _ _ 39 [(0, .ref (pl 0)), (1, .int (iI x))] [.int (iI (-1))] _ _ _ _
  refine pm_e_ret pm_a89_39 rfl rfl rfl rfl rfl rfl rfl rfl ?_
  exact k _ (fun z => by omega) (fun z => by omega) (fun z y => by omega)
set_option maxHeartbeats 4000000 in
set_option maxRecDepth 100000 in
theorem C_heldAt {d n : Nat} {kd pl : Nat → Nat} {s : Nat → Int} {a : Nat → Int → Int} {c : Nat → cdt} {M : List va_E} {Q : Option Value → List va_E → Nat → Nat → Prop} {p : Int} (hW : wf n kd pl) (h200 : al n kd pl 200) (hp : 0 ≤ p) (hp1 : p < 1500) (k : Q (some (.int (iI (a 7 p)))) (ch n kd pl s a c M) 0 0) : pm_E none d pm_mm98 0 [(0, .ref (pl 200)), (1, .int (iI p))] [] (ch n kd pl s a c M) 0 0 Q := by
  refine pm_e_sim pm_a98_0 rfl ?_
  show pm_E _ _ _ 1 [(0, .ref (pl 200)), (1, .int (iI p))] [.int (iI p)] _ _ _ _
  refine pm_i_lt (t := 22) pm_a98_1 rfl ⟨by omega, by omega⟩ (fun h_1 => ?_) (fun h_1 => ?_)
  · skip
    exfalso; omega
  · skip
    show pm_E _ _ _ 4 [(0, .ref (pl 200)), (1, .int (iI p))] [] _ _ _ _
    refine pm_e_sim pm_a98_4 rfl ?_
    show pm_E _ _ _ 5 [(0, .ref (pl 200)), (1, .int (iI p))] [.int (iI p)] _ _ _ _
    refine pm_e_sim pm_a98_5 rfl ?_
    show pm_E _ _ _ 6 [(0, .ref (pl 200)), (1, .int (iI p))] [.ref (pl 200), .int (iI p)] _ _ _ _
    refine pm_i_get pm_a98_6 rfl (cg_200 hW h200) rfl ?_
    show pm_E _ _ _ 9 [(0, .ref (pl 200)), (1, .int (iI p))] [.ref (pl 201), .int (iI p)] _ _ _ _
    refine pm_i_aln pm_a98_9 (cg_201 hW h200) ?_
    show pm_E _ _ _ 10 [(0, .ref (pl 200)), (1, .int (iI p))] [.int (iI 1500), .int (iI p)] _ _ _ _
    refine pm_c_ge (t := 22) pm_a98_10 rfl ⟨by omega, by omega⟩ ⟨by omega, by omega⟩ (fun h_2 => ?_) (fun h_2 => ?_)
    · skip
      exfalso; omega
    · skip
      show pm_E _ _ _ 13 [(0, .ref (pl 200)), (1, .int (iI p))] [] _ _ _ _
      refine pm_e_sim pm_a98_13 rfl ?_
      show pm_E _ _ _ 14 [(0, .ref (pl 200)), (1, .int (iI p))] [.ref (pl 200)] _ _ _ _
      refine pm_i_get pm_a98_14 rfl (cg_200 hW h200) rfl ?_
      show pm_E _ _ _ 17 [(0, .ref (pl 200)), (1, .int (iI p))] [.ref (pl 201)] _ _ _ _
      refine pm_e_sim pm_a98_17 rfl ?_
      show pm_E _ _ _ 18 [(0, .ref (pl 200)), (1, .int (iI p))] [.int (iI p), .ref (pl 201)] _ _ _ _
      refine pm_i_ald pm_a98_18 (cg_201 hW h200) (by omega) (by omega) ⟨by omega, by omega⟩ ?_
      show pm_E _ _ _ 19 [(0, .ref (pl 200)), (1, .int (iI p))] [.int (iI ((a 7) (p)))] _ _ _ _
      refine pm_e_goto pm_a98_19 rfl ?_
      show pm_E _ _ _ 23 [(0, .ref (pl 200)), (1, .int (iI p))] [.int (iI ((a 7) (p)))] _ _ _ _
      refine pm_e_ret pm_a98_23 rfl rfl rfl rfl rfl rfl rfl rfl ?_
      exact k
set_option maxHeartbeats 4000000 in
set_option maxRecDepth 100000 in
theorem C_hold {d n : Nat} {kd pl : Nat → Nat} {s : Nat → Int} {a : Nat → Int → Int} {c : Nat → cdt} {M : List va_E} {Q : Option Value → List va_E → Nat → Nat → Prop} {x : Int} (hW : wf n kd pl) (h200 : al n kd pl 200) (h0 : 0 ≤ s 19) (h1 : s 19 ≤ 1500) (k1 : 0 < s 19 → Q (some (.int (iI 1))) (ch n kd pl (updS s 19 (s 19 - 1)) (updA a 7 (updI (a 7) (s 19 - 1) x)) c M) 0 0) (k0 : s 19 = 0 → Q (some (.int (iI 0))) (ch n kd pl s a c M) 0 0) : pm_E none d pm_mm103 0 [(0, .ref (pl 200)), (1, .int (iI x))] [] (ch n kd pl s a c M) 0 0 Q := by
  refine pm_e_sim pm_a103_0 rfl ?_
  show pm_E _ _ _ 1 [(0, .ref (pl 200)), (1, .int (iI x))] [.ref (pl 200)] _ _ _ _
  refine pm_i_get pm_a103_1 rfl (cg_200 hW h200) rfl ?_
  show pm_E _ _ _ 4 [(0, .ref (pl 200)), (1, .int (iI x))] [.int (iI (s 19))] _ _ _ _
  refine pm_i_le (t := 19) pm_a103_4 rfl ⟨by omega, by omega⟩ (fun h_1 => ?_) (fun h_1 => ?_)
  · skip
    show pm_E _ _ _ 19 [(0, .ref (pl 200)), (1, .int (iI x))] [] _ _ _ _
    refine pm_e_sim pm_a103_19 rfl ?_
    refine pm_e_top (y := iI 0) (by decide +kernel) ?_
    show pm_E _ _ _ 20 [(0, .ref (pl 200)), (1, .int (iI x))] [.int (iI 0)] _ _ _ _
    refine pm_e_ret pm_a103_20 rfl rfl rfl rfl rfl rfl rfl rfl ?_
    exact k0 (by omega)
  · skip
    show pm_E _ _ _ 7 [(0, .ref (pl 200)), (1, .int (iI x))] [] _ _ _ _
    refine pm_e_sim pm_a103_7 rfl ?_
    show pm_E _ _ _ 8 [(0, .ref (pl 200)), (1, .int (iI x))] [.ref (pl 200)] _ _ _ _
    refine pm_i_get pm_a103_8 rfl (cg_200 hW h200) rfl ?_
    show pm_E _ _ _ 11 [(0, .ref (pl 200)), (1, .int (iI x))] [.int (iI (s 19))] _ _ _ _
    refine pm_e_sim pm_a103_11 rfl ?_
    show pm_E _ _ _ 12 [(0, .ref (pl 200)), (1, .int (iI x))] [.ref (pl 200), .int (iI (s 19))] _ _ _ _
    refine pm_i_get pm_a103_12 rfl (cg_200 hW h200) rfl ?_
    show pm_E _ _ _ 15 [(0, .ref (pl 200)), (1, .int (iI x))] [.ref (pl 201), .int (iI (s 19))] _ _ _ _
    refine pm_i_aln pm_a103_15 (cg_201 hW h200) ?_
    show pm_E _ _ _ 16 [(0, .ref (pl 200)), (1, .int (iI x))] [.int (iI 1500), .int (iI (s 19))] _ _ _ _
    refine pm_c_le (t := 21) pm_a103_16 rfl ⟨by omega, by omega⟩ ⟨by omega, by omega⟩ (fun h_2 => ?_) (fun h_2 => ?_)
    · skip
      show pm_E _ _ _ 21 [(0, .ref (pl 200)), (1, .int (iI x))] [] _ _ _ _
      refine pm_e_sim pm_a103_21 rfl ?_
      show pm_E _ _ _ 22 [(0, .ref (pl 200)), (1, .int (iI x))] [.ref (pl 200)] _ _ _ _
      refine pm_e_sim pm_a103_22 rfl ?_
      show pm_E _ _ _ 23 [(0, .ref (pl 200)), (1, .int (iI x))] [.ref (pl 200), .ref (pl 200)] _ _ _ _
      refine pm_i_get pm_a103_23 rfl (cg_200 hW h200) rfl ?_
      show pm_E _ _ _ 26 [(0, .ref (pl 200)), (1, .int (iI x))] [.int (iI (s 19)), .ref (pl 200)] _ _ _ _
      refine pm_e_sim pm_a103_26 rfl ?_
      refine pm_e_top (y := iI 1) (by decide +kernel) ?_
      show pm_E _ _ _ 27 [(0, .ref (pl 200)), (1, .int (iI x))] [.int (iI 1), .int (iI (s 19)), .ref (pl 200)] _ _ _ _
      refine pm_e_sim pm_a103_27 rfl ?_
      refine pm_e_top (y := iI (s 19 - 1)) (iI_sub _ _) ?_
      show pm_E _ _ _ 28 [(0, .ref (pl 200)), (1, .int (iI x))] [.int (iI (s 19 - 1)), .ref (pl 200)] _ _ _ _
      refine pm_i_put pm_a103_28 rfl (cg_200 hW h200) rfl (Nat.le_of_ble_eq_true rfl) (Or.inl rfl) (cw_19 hW h200 (s 19 - 1)) ?_
      show pm_E _ _ _ 31 [(0, .ref (pl 200)), (1, .int (iI x))] [] _ _ _ _
      refine pm_e_sim pm_a103_31 rfl ?_
      show pm_E _ _ _ 32 [(0, .ref (pl 200)), (1, .int (iI x))] [.ref (pl 200)] _ _ _ _
      refine pm_i_get pm_a103_32 rfl (cg_200 hW h200) rfl ?_
      show pm_E _ _ _ 35 [(0, .ref (pl 200)), (1, .int (iI x))] [.ref (pl 201)] _ _ _ _
      refine pm_e_sim pm_a103_35 rfl ?_
      show pm_E _ _ _ 36 [(0, .ref (pl 200)), (1, .int (iI x))] [.ref (pl 200), .ref (pl 201)] _ _ _ _
      refine pm_i_get pm_a103_36 rfl (cg_200 hW h200) rfl ?_
      show pm_E _ _ _ 39 [(0, .ref (pl 200)), (1, .int (iI x))] [.int (iI (s 19 - 1)), .ref (pl 201)] _ _ _ _
      refine pm_e_sim pm_a103_39 rfl ?_
      show pm_E _ _ _ 40 [(0, .ref (pl 200)), (1, .int (iI x))] [.int (iI x), .int (iI (s 19 - 1)), .ref (pl 201)] _ _ _ _
      refine pm_i_ast pm_a103_40 (cg_201 hW h200) (by omega) (by omega) ⟨by omega, by omega⟩ (ca_201 hW h200 _) ?_
      show pm_E _ _ _ 41 [(0, .ref (pl 200)), (1, .int (iI x))] [] _ _ _ _
      refine pm_e_sim pm_a103_41 rfl ?_
      refine pm_e_top (y := iI 1) (by decide +kernel) ?_
      show pm_E _ _ _ 42 [(0, .ref (pl 200)), (1, .int (iI x))] [.int (iI 1)] _ _ _ _
      refine pm_e_ret pm_a103_42 rfl rfl rfl rfl rfl rfl rfl rfl ?_
      exact k1 (by omega)
    · skip
      exfalso; omega
set_option maxHeartbeats 4000000 in
set_option maxRecDepth 100000 in
theorem C_putLowered_l {d n : Nat} {kd pl : Nat → Nat} {s : Nat → Int} {a : Nat → Int → Int} {c : Nat → cdt} {M : List va_E} {Q : Option Value → List va_E → Nat → Nat → Prop} {x e : Int} (hW : wf n kd pl) (h200 : al n kd pl 200) (hok : okx (rm 2) (c 2)) (hg : ∀ q, 0 ≤ q → q < (c 2).1 → 0 ≤ (c 2).2.2 q ∧ (c 2).2.2 q ≤ 100000) (hx : 0 ≤ x) (he : e ≤ (c 2).1) (hn : ∀ q, x ≤ q → q < e → (c 2).2.2 q ≠ 10) : ∀ (f : Nat) (i : Int) (z : cdt) (l : List Int), x ≤ i → i ≤ e → md z (rm 3) l → (∀ z2, md z2 (rm 3) (l ++ rg (lsI (c 2).2.2) (e - i).toNat i) → Q none (ch n kd pl s a (updC c 3 z2) M) 0 0) → e - i < (f : Int) → pm_E none (d + 1) pm_mm102 2 [(0, .ref (pl 200)), (1, .int (iI x)), (2, .int (iI e)), (3, .int (iI i))] [] (ch n kd pl s a (updC c 3 z) M) 0 0 Q := by
  intro f
  induction f with
  | zero =>
    intro i z l hi0 hi1 hl k hf
    exfalso; omega
  | succ f ih =>
    intro i z l hi0 hi1 hl k hf
    have rb := rm_b 2
    obtain ⟨o1, o2, o3, o4⟩ := id hok
    refine pm_e_sim pm_a102_2 rfl ?_
    show pm_E _ _ _ 3 [(0, .ref (pl 200)), (1, .int (iI x)), (2, .int (iI e)), (3, .int (iI i))] [.int (iI i)] _ _ _ _
    refine pm_e_sim pm_a102_3 rfl ?_
    show pm_E _ _ _ 4 [(0, .ref (pl 200)), (1, .int (iI x)), (2, .int (iI e)), (3, .int (iI i))] [.int (iI e), .int (iI i)] _ _ _ _
    refine pm_c_ge (t := 46) pm_a102_4 rfl ⟨by omega, by omega⟩ ⟨by omega, by omega⟩ (fun h_1 => ?_) (fun h_1 => ?_)
    · skip
      show pm_E _ _ _ 46 [(0, .ref (pl 200)), (1, .int (iI x)), (2, .int (iI e)), (3, .int (iI i))] [] _ _ _ _
      refine pm_e_ret pm_a102_46 rfl rfl rfl rfl rfl rfl rfl rfl ?_
      refine k z ?_
      rw [show (e - i).toNat = 0 by omega]
      show md z (rm 3) (l ++ [])
      rw [List.append_nil]
      exact hl
    · skip
      show pm_E _ _ _ 7 [(0, .ref (pl 200)), (1, .int (iI x)), (2, .int (iI e)), (3, .int (iI i))] [] _ _ _ _
      refine pm_e_sim pm_a102_7 rfl ?_
      show pm_E _ _ _ 8 [(0, .ref (pl 200)), (1, .int (iI x)), (2, .int (iI e)), (3, .int (iI i))] [.ref (pl 200)] _ _ _ _
      refine pm_i_get pm_a102_8 rfl (cg_200 hW h200) rfl ?_
      show pm_E _ _ _ 11 [(0, .ref (pl 200)), (1, .int (iI x)), (2, .int (iI e)), (3, .int (iI i))] [.ref (pl (60 + 2 * 2))] _ _ _ _
      refine pm_e_sim pm_a102_11 rfl ?_
      show pm_E _ _ _ 12 [(0, .ref (pl 200)), (1, .int (iI x)), (2, .int (iI e)), (3, .int (iI i))] [.int (iI i), .ref (pl (60 + 2 * 2))] _ _ _ _
      refine pm_i_callv (k := (pl (60 + 2 * 2))) (T2 := pm_mm47) pm_a102_12 rfl rfl rfl (cg_o (cj2 hW h200)) ⟨Nat.le_of_ble_eq_true rfl, Nat.le_of_ble_eq_true rfl, rfl, by decide +kernel⟩ ?_
      show pm_E none _ _ 0 [(0, .ref (pl (60 + 2 * 2))), (1, .int (iI i))] [] _ _ _ _
      refine C_at hW (cj2 hW h200) (updC_n (by decide)) hok.1 hok.2.1 ⟨by omega, by omega⟩ ?_
      rw [atI_y (by omega) (by omega)]
      obtain ⟨_, _⟩ := hg i (by omega) (by omega)
      have n10 := hn i (by omega) (by omega)
      show pm_E _ _ _ 15 [(0, .ref (pl 200)), (1, .int (iI x)), (2, .int (iI e)), (3, .int (iI i))] [.int (iI ((c 2).2.2 i))] _ _ _ _
      refine pm_e_sim pm_a102_15 rfl ?_
      show pm_E _ _ _ 17 [(0, .ref (pl 200)), (1, .int (iI x)), (2, .int (iI e)), (3, .int (iI i)), (4, .int (iI ((c 2).2.2 i)))] [] _ _ _ _
      refine pm_e_sim pm_a102_17 rfl ?_
      show pm_E _ _ _ 18 [(0, .ref (pl 200)), (1, .int (iI x)), (2, .int (iI e)), (3, .int (iI i)), (4, .int (iI ((c 2).2.2 i)))] [.ref (pl 200)] _ _ _ _
      refine pm_i_get pm_a102_18 rfl (cg_200 hW h200) rfl ?_
      show pm_E _ _ _ 21 [(0, .ref (pl 200)), (1, .int (iI x)), (2, .int (iI e)), (3, .int (iI i)), (4, .int (iI ((c 2).2.2 i)))] [.ref (pl (60 + 2 * 3))] _ _ _ _
      refine pm_e_sim pm_a102_21 rfl ?_
      show pm_E _ _ _ 23 [(0, .ref (pl 200)), (1, .int (iI x)), (2, .int (iI e)), (3, .int (iI i)), (4, .int (iI ((c 2).2.2 i)))] [.int (iI ((c 2).2.2 i)), .ref (pl (60 + 2 * 3))] _ _ _ _
      refine pm_e_sim pm_a102_23 rfl ?_
      refine pm_e_top (y := iI 10) (by decide +kernel) ?_
      show pm_E _ _ _ 25 [(0, .ref (pl 200)), (1, .int (iI x)), (2, .int (iI e)), (3, .int (iI i)), (4, .int (iI ((c 2).2.2 i)))] [.int (iI 10), .int (iI ((c 2).2.2 i)), .ref (pl (60 + 2 * 3))] _ _ _ _
      refine pm_c_le (t := 35) pm_a102_25 rfl ⟨by omega, by omega⟩ ⟨by omega, by omega⟩ (fun h_2 => ?_) (fun h_2 => ?_)
      · skip
        show pm_E _ _ _ 35 [(0, .ref (pl 200)), (1, .int (iI x)), (2, .int (iI e)), (3, .int (iI i)), (4, .int (iI ((c 2).2.2 i)))] [.ref (pl (60 + 2 * 3))] _ _ _ _
        refine pm_e_sim pm_a102_35 rfl ?_
        show pm_E _ _ _ 37 [(0, .ref (pl 200)), (1, .int (iI x)), (2, .int (iI e)), (3, .int (iI i)), (4, .int (iI ((c 2).2.2 i)))] [.int (iI ((c 2).2.2 i)), .ref (pl (60 + 2 * 3))] _ _ _ _
        refine pm_i_callv (k := (pl (60 + 2 * 3))) (T2 := pm_mm40) pm_a102_37 rfl rfl rfl (cg_o (cj3 hW h200)) ⟨Nat.le_of_ble_eq_true rfl, Nat.le_of_ble_eq_true rfl, rfl, by decide +kernel⟩ ?_
        show pm_E none _ _ 0 [(0, .ref (pl (60 + 2 * 3))), (1, .int (iI ((c 2).2.2 i)))] [] _ _ _ _
        refine C_put hW (cj3 hW h200) (l := l) (by rw [updC_at]; exact hl) ⟨by omega, by omega⟩ (fun y hy => ?_)
        rw [updC_s]
        show pm_E _ _ _ 40 [(0, .ref (pl 200)), (1, .int (iI x)), (2, .int (iI e)), (3, .int (iI i)), (4, .int (iI ((c 2).2.2 i)))] [] _ _ _ _
        refine pm_e_inc (y := iI (i + 1)) pm_a102_40 rfl (iI_add _ _) (by decide +kernel) rfl ?_
        show pm_E _ _ _ 43 [(0, .ref (pl 200)), (1, .int (iI x)), (2, .int (iI e)), (3, .int (iI (i + 1))), (4, .int (iI ((c 2).2.2 i)))] [] _ _ _ _
        refine pm_e_goto pm_a102_43 rfl ?_
        show pm_E _ _ _ 2 [(0, .ref (pl 200)), (1, .int (iI x)), (2, .int (iI e)), (3, .int (iI (i + 1))), (4, .int (iI ((c 2).2.2 i)))] [] _ _ _ _
        show pm_E _ _ _ 2 ([(0, .ref (pl 200)), (1, .int (iI x)), (2, .int (iI e)), (3, .int (iI (i + 1)))] ++ [(4, .int (iI ((c 2).2.2 i)))]) [] _ _ _ _
        refine pm_e_more [(4, .int (iI ((c 2).2.2 i)))] (show ([0, 1, 2, 3, 4] : List Nat).Nodup from by decide) ?_
        have ev : lsI (c 2).2.2 i = (c 2).2.2 i := (lsI_n (by omega)).symm
        refine ih _ y _ (by omega) (by omega) hy (fun z2 hz => k z2 ?_) (by omega)
        rw [rg_cons (by omega), List.append_cons, ev]
        exact hz
      · skip
        show pm_E _ _ _ 28 [(0, .ref (pl 200)), (1, .int (iI x)), (2, .int (iI e)), (3, .int (iI i)), (4, .int (iI ((c 2).2.2 i)))] [.ref (pl (60 + 2 * 3))] _ _ _ _
        refine pm_e_sim pm_a102_28 rfl ?_
        show pm_E _ _ _ 30 [(0, .ref (pl 200)), (1, .int (iI x)), (2, .int (iI e)), (3, .int (iI i)), (4, .int (iI ((c 2).2.2 i)))] [.int (iI ((c 2).2.2 i)), .ref (pl (60 + 2 * 3))] _ _ _ _
        refine pm_e_sim pm_a102_30 rfl ?_
        refine pm_e_top (y := iI 1) (by decide +kernel) ?_
        show pm_E _ _ _ 31 [(0, .ref (pl 200)), (1, .int (iI x)), (2, .int (iI e)), (3, .int (iI i)), (4, .int (iI ((c 2).2.2 i)))] [.int (iI 1), .int (iI ((c 2).2.2 i)), .ref (pl (60 + 2 * 3))] _ _ _ _
        refine pm_e_sim pm_a102_31 rfl ?_
        refine pm_e_top (y := iI ((c 2).2.2 i - 1)) (iI_sub _ _) ?_
        show pm_E _ _ _ 32 [(0, .ref (pl 200)), (1, .int (iI x)), (2, .int (iI e)), (3, .int (iI i)), (4, .int (iI ((c 2).2.2 i)))] [.int (iI ((c 2).2.2 i - 1)), .ref (pl (60 + 2 * 3))] _ _ _ _
        refine pm_e_goto pm_a102_32 rfl ?_
        show pm_E _ _ _ 37 [(0, .ref (pl 200)), (1, .int (iI x)), (2, .int (iI e)), (3, .int (iI i)), (4, .int (iI ((c 2).2.2 i)))] [.int (iI ((c 2).2.2 i - 1)), .ref (pl (60 + 2 * 3))] _ _ _ _
        refine pm_i_callv (k := (pl (60 + 2 * 3))) (T2 := pm_mm40) pm_a102_37 rfl rfl rfl (cg_o (cj3 hW h200)) ⟨Nat.le_of_ble_eq_true rfl, Nat.le_of_ble_eq_true rfl, rfl, by decide +kernel⟩ ?_
        show pm_E none _ _ 0 [(0, .ref (pl (60 + 2 * 3))), (1, .int (iI ((c 2).2.2 i - 1)))] [] _ _ _ _
        refine C_put hW (cj3 hW h200) (l := l) (by rw [updC_at]; exact hl) ⟨by omega, by omega⟩ (fun y hy => ?_)
        rw [updC_s]
        show pm_E _ _ _ 40 [(0, .ref (pl 200)), (1, .int (iI x)), (2, .int (iI e)), (3, .int (iI i)), (4, .int (iI ((c 2).2.2 i)))] [] _ _ _ _
        refine pm_e_inc (y := iI (i + 1)) pm_a102_40 rfl (iI_add _ _) (by decide +kernel) rfl ?_
        show pm_E _ _ _ 43 [(0, .ref (pl 200)), (1, .int (iI x)), (2, .int (iI e)), (3, .int (iI (i + 1))), (4, .int (iI ((c 2).2.2 i)))] [] _ _ _ _
        refine pm_e_goto pm_a102_43 rfl ?_
        show pm_E _ _ _ 2 [(0, .ref (pl 200)), (1, .int (iI x)), (2, .int (iI e)), (3, .int (iI (i + 1))), (4, .int (iI ((c 2).2.2 i)))] [] _ _ _ _
        show pm_E _ _ _ 2 ([(0, .ref (pl 200)), (1, .int (iI x)), (2, .int (iI e)), (3, .int (iI (i + 1)))] ++ [(4, .int (iI ((c 2).2.2 i)))]) [] _ _ _ _
        refine pm_e_more [(4, .int (iI ((c 2).2.2 i)))] (show ([0, 1, 2, 3, 4] : List Nat).Nodup from by decide) ?_
        have ev : lsI (c 2).2.2 i = (c 2).2.2 i - 1 := (lsI_y (by omega)).symm
        refine ih _ y _ (by omega) (by omega) hy (fun z2 hz => k z2 ?_) (by omega)
        rw [rg_cons (by omega), List.append_cons, ev]
        exact hz
set_option maxHeartbeats 4000000 in
set_option maxRecDepth 100000 in
theorem C_putLowered {d n : Nat} {kd pl : Nat → Nat} {s : Nat → Int} {a : Nat → Int → Int} {c : Nat → cdt} {M : List va_E} {Q : Option Value → List va_E → Nat → Nat → Prop} {x e : Int} {y : cdt} {l : List Int} (hW : wf n kd pl) (h200 : al n kd pl 200) (hy : c 2 = y) (hok : okx (rm 2) y) (hg : ∀ q, 0 ≤ q → q < y.1 → 0 ≤ y.2.2 q ∧ y.2.2 q ≤ 100000) (hx : 0 ≤ x) (he : e ≤ y.1) (hn : ∀ q, x ≤ q → q < e → y.2.2 q ≠ 10) (hxe : x ≤ e) (hl : md (c 3) (rm 3) l) (k : ∀ z, md z (rm 3) (l ++ rg (lsI y.2.2) (e - x).toNat x) → Q none (ch n kd pl s a (updC c 3 z) M) 0 0) : pm_E none (d + 1) pm_mm102 0 [(0, .ref (pl 200)), (1, .int (iI x)), (2, .int (iI e))] [] (ch n kd pl s a c M) 0 0 Q := by
  subst hy
  refine pm_e_sim pm_a102_0 rfl ?_
  show pm_E _ _ _ 1 [(0, .ref (pl 200)), (1, .int (iI x)), (2, .int (iI e))] [.int (iI x)] _ _ _ _
  refine pm_e_sim pm_a102_1 rfl ?_
  show pm_E _ _ _ 2 [(0, .ref (pl 200)), (1, .int (iI x)), (2, .int (iI e)), (3, .int (iI x))] [] _ _ _ _
  refine pm_e_heap (show ch n kd pl s a c M = ch n kd pl s a (updC c 3 (c 3)) M from by rw [updC_self]) ?_
  exact C_putLowered_l hW h200 hok hg hx he hn ((e - x).toNat + 1) x (c 3) l (by omega) hxe hl k (by omega)
/-- how many of the variable stand before a place -/
def mt (g G : Int → Int) (z : Int) : Prop := (∀ q, 0 ≤ q → q < z → G (q + 1) = G q + (if g q = 10 then 1 else 0)) ∧ (0 < z → ∀ q, 0 ≤ q → q ≤ z → 0 ≤ G q ∧ G q ≤ q)
theorem mt_up {g G : Int → Int} {z : Int} (h : mt g G z) : ∀ (n : Nat) (p : Int), 0 ≤ p → p + n ≤ z → G p ≤ G (p + n) ∧ (G p < G (p + n) ↔ ∃ j, p ≤ j ∧ j < p + n ∧ g j = 10) := by
  intro n
  induction n with
  | zero => intro p h0 h1; rw [show p + ((0 : Nat) : Int) = p by omega]; exact ⟨Int.le_refl _, ⟨fun h => by omega, fun ⟨j, a, b, _⟩ => by omega⟩⟩
  | succ n ih =>
    intro p h0 h1
    obtain ⟨i1, i2⟩ := ih p h0 (by omega)
    have hs := h.1 (p + n) (by omega) (by omega)
    rw [show p + ((n + 1 : Nat) : Int) = p + n + 1 by omega]
    by_cases hc : g (p + n) = 10
    · rw [if_pos hc] at hs
      exact ⟨by omega, ⟨fun _ => ⟨p + n, by omega, by omega, hc⟩, fun _ => by omega⟩⟩
    · rw [if_neg hc] at hs
      refine ⟨by omega, ⟨fun h => ?_, fun ⟨j, a, b, e⟩ => ?_⟩⟩
      · obtain ⟨j, a, b, e⟩ := i2.mp (by omega)
        exact ⟨j, a, by omega, e⟩
      · have : j < p + n := by
          rcases Int.lt_or_le j (p + n) with h | h
          · exact h
          · exact absurd (by rw [← show j = p + n by omega]; exact e) hc
        have := i2.mpr ⟨j, a, this, e⟩
        omega
theorem mt_met {g G : Int → Int} {z p e : Int} (h : mt g G z) (h0 : 0 ≤ p) (h1 : p ≤ e) (h2 : e ≤ z) : G p < G e ↔ ∃ j, p ≤ j ∧ j < e ∧ g j = 10 := by
  have := (mt_up h (e - p).toNat p h0 (by omega)).2
  rw [show p + ((e - p).toNat : Int) = e by omega] at this
  exact this
theorem mt_step {g G : Int → Int} {i m v : Int} (h : mt g G i) (h0 : 0 ≤ i) (hm : 0 < i → G i = m) (hm0 : 0 ≤ m ∧ m ≤ i) (hv : v = m + (if g i = 10 then 1 else 0)) : mt g (updI (updI G i m) (i + 1) v) (i + 1) := by
  have hb : 0 ≤ v ∧ v ≤ i + 1 := by split at hv <;> omega
  refine ⟨fun q a b => ?_, fun _ q a b => ?_⟩
  · by_cases hq : q = i
    · subst hq
      rw [updI_s, updI_n _ _ (by omega), updI_s, hv]
    · rw [updI_n _ _ (by omega), updI_n _ _ (show q ≠ i + 1 by omega), updI_n _ _ hq]
      by_cases hq1 : q + 1 = i
      · rw [hq1, updI_s, ← hm (by omega), ← hq1]; exact h.1 q a (by omega)
      · rw [updI_n _ _ hq1]; exact h.1 q a (by omega)
  · by_cases hq : q = i + 1
    · subst hq; rw [updI_s]; exact hb
    · rw [updI_n _ _ hq]
      by_cases hq1 : q = i
      · subst hq1; rw [updI_s]; exact hm0
      · rw [updI_n _ _ hq1]; exact h.2 (by omega) q a (by omega)
set_option maxHeartbeats 4000000 in
set_option maxRecDepth 100000 in
theorem C_countMet_l {d n : Nat} {kd pl : Nat → Nat} {s : Nat → Int} {a : Nat → Int → Int} {c : Nat → cdt} {M : List va_E} {Q : Option Value → List va_E → Nat → Nat → Prop} (hW : wf n kd pl) (h200 : al n kd pl 200) (hok : okx (rm 2) (c 2)) (k : ∀ G, mt (c 2).2.2 G (c 2).1 → Q none (ch n kd pl s (updA a 8 G) c M) 0 0) : ∀ (f : Nat) (m i : Int) (G : Int → Int), 0 ≤ i → i ≤ (c 2).1 → (0 ≤ m ∧ m ≤ i) → mt (c 2).2.2 G i → (0 < i → G i = m) → (c 2).1 - i < (f : Int) → pm_E none (d + 1) pm_mm99 4 [(0, .ref (pl 200)), (1, .int (iI m)), (2, .int (iI i))] [] (ch n kd pl s (updA a 8 G) c M) 0 0 Q := by
  intro f
  induction f with
  | zero =>
    intro m i G hi0 hi1 hm0 hG hm hf
    exfalso; omega
  | succ f ih =>
    intro m i G hi0 hi1 hm0 hG hm hf
    have rb := rm_b 2
    have r2 : rm 2 = 502 := rfl
    obtain ⟨o1, o2, o3, o4⟩ := id hok
    refine pm_e_sim pm_a99_4 rfl ?_
    show pm_E _ _ _ 5 [(0, .ref (pl 200)), (1, .int (iI m)), (2, .int (iI i))] [.int (iI i)] _ _ _ _
    refine pm_e_sim pm_a99_5 rfl ?_
    show pm_E _ _ _ 6 [(0, .ref (pl 200)), (1, .int (iI m)), (2, .int (iI i))] [.ref (pl 200), .int (iI i)] _ _ _ _
    refine pm_i_get pm_a99_6 rfl (cg_200 hW h200) rfl ?_
    show pm_E _ _ _ 9 [(0, .ref (pl 200)), (1, .int (iI m)), (2, .int (iI i))] [.ref (pl (60 + 2 * 2)), .int (iI i)] _ _ _ _
    refine pm_i_get pm_a99_9 rfl (cg_o (cj2 hW h200)) rfl ?_
    show pm_E _ _ _ 12 [(0, .ref (pl 200)), (1, .int (iI m)), (2, .int (iI i))] [.int (iI ((c 2).1)), .int (iI i)] _ _ _ _
    refine pm_c_ge (t := 69) pm_a99_12 rfl ⟨by omega, by omega⟩ ⟨by omega, by omega⟩ (fun h_1 => ?_) (fun h_1 => ?_)
    · skip
      show pm_E _ _ _ 69 [(0, .ref (pl 200)), (1, .int (iI m)), (2, .int (iI i))] [] _ _ _ _
      refine pm_e_ret pm_a99_69 rfl rfl rfl rfl rfl rfl rfl rfl ?_
      have e9 : i = (c 2).1 := by omega
      rw [e9] at hG
      exact k G hG
    · skip
      show pm_E _ _ _ 15 [(0, .ref (pl 200)), (1, .int (iI m)), (2, .int (iI i))] [] _ _ _ _
      refine pm_e_sim pm_a99_15 rfl ?_
      show pm_E _ _ _ 16 [(0, .ref (pl 200)), (1, .int (iI m)), (2, .int (iI i))] [.int (iI i)] _ _ _ _
      refine pm_e_sim pm_a99_16 rfl ?_
      refine pm_e_top (y := iI 1) (by decide +kernel) ?_
      show pm_E _ _ _ 17 [(0, .ref (pl 200)), (1, .int (iI m)), (2, .int (iI i))] [.int (iI 1), .int (iI i)] _ _ _ _
      refine pm_e_sim pm_a99_17 rfl ?_
      refine pm_e_top (y := iI (i + 1)) (iI_add _ _) ?_
      show pm_E _ _ _ 18 [(0, .ref (pl 200)), (1, .int (iI m)), (2, .int (iI i))] [.int (iI (i + 1))] _ _ _ _
      refine pm_e_sim pm_a99_18 rfl ?_
      show pm_E _ _ _ 19 [(0, .ref (pl 200)), (1, .int (iI m)), (2, .int (iI i))] [.ref (pl 200), .int (iI (i + 1))] _ _ _ _
      refine pm_i_get pm_a99_19 rfl (cg_200 hW h200) rfl ?_
      show pm_E _ _ _ 22 [(0, .ref (pl 200)), (1, .int (iI m)), (2, .int (iI i))] [.ref (pl 202), .int (iI (i + 1))] _ _ _ _
      refine pm_i_aln pm_a99_22 (cg_202 hW h200) ?_
      show pm_E _ _ _ 23 [(0, .ref (pl 200)), (1, .int (iI m)), (2, .int (iI i))] [.int (iI 503), .int (iI (i + 1))] _ _ _ _
      refine pm_c_ge (t := 69) pm_a99_23 rfl ⟨by omega, by omega⟩ ⟨by omega, by omega⟩ (fun h_2 => ?_) (fun h_2 => ?_)
      · skip
        exfalso; omega
      · skip
        show pm_E _ _ _ 26 [(0, .ref (pl 200)), (1, .int (iI m)), (2, .int (iI i))] [] _ _ _ _
        refine pm_e_sim pm_a99_26 rfl ?_
        show pm_E _ _ _ 27 [(0, .ref (pl 200)), (1, .int (iI m)), (2, .int (iI i))] [.ref (pl 200)] _ _ _ _
        refine pm_i_get pm_a99_27 rfl (cg_200 hW h200) rfl ?_
        show pm_E _ _ _ 30 [(0, .ref (pl 200)), (1, .int (iI m)), (2, .int (iI i))] [.ref (pl 202)] _ _ _ _
        refine pm_e_sim pm_a99_30 rfl ?_
        show pm_E _ _ _ 31 [(0, .ref (pl 200)), (1, .int (iI m)), (2, .int (iI i))] [.int (iI i), .ref (pl 202)] _ _ _ _
        refine pm_e_sim pm_a99_31 rfl ?_
        show pm_E _ _ _ 32 [(0, .ref (pl 200)), (1, .int (iI m)), (2, .int (iI i))] [.int (iI m), .int (iI i), .ref (pl 202)] _ _ _ _
        refine pm_i_ast pm_a99_32 (cg_202 hW h200) (by omega) (by omega) ⟨by omega, by omega⟩ (ca_202 hW h200 _) ?_
        show pm_E _ _ _ 33 [(0, .ref (pl 200)), (1, .int (iI m)), (2, .int (iI i))] [] _ _ _ _
        refine pm_e_sim pm_a99_33 rfl ?_
        show pm_E _ _ _ 34 [(0, .ref (pl 200)), (1, .int (iI m)), (2, .int (iI i))] [.int (iI m)] _ _ _ _
        refine pm_e_sim pm_a99_34 rfl ?_
        show pm_E _ _ _ 35 [(0, .ref (pl 200)), (1, .int (iI m)), (2, .int (iI i))] [.ref (pl 200), .int (iI m)] _ _ _ _
        refine pm_i_get pm_a99_35 rfl (cg_200 hW h200) rfl ?_
        show pm_E _ _ _ 38 [(0, .ref (pl 200)), (1, .int (iI m)), (2, .int (iI i))] [.ref (pl (60 + 2 * 2)), .int (iI m)] _ _ _ _
        refine pm_e_sim pm_a99_38 rfl ?_
        show pm_E _ _ _ 39 [(0, .ref (pl 200)), (1, .int (iI m)), (2, .int (iI i))] [.int (iI i), .ref (pl (60 + 2 * 2)), .int (iI m)] _ _ _ _
        refine pm_i_callv (k := (pl (60 + 2 * 2))) (T2 := pm_mm47) pm_a99_39 rfl rfl rfl (cg_o (cj2 hW h200)) ⟨Nat.le_of_ble_eq_true rfl, Nat.le_of_ble_eq_true rfl, rfl, by decide +kernel⟩ ?_
        show pm_E none _ _ 0 [(0, .ref (pl (60 + 2 * 2))), (1, .int (iI i))] [] _ _ _ _
        refine C_at hW (cj2 hW h200) rfl hok.1 hok.2.1 ⟨by omega, by omega⟩ ?_
        rw [atI_y (by omega) (by omega)]
        obtain ⟨_, _⟩ := hok.2.2.2 i
        show pm_E _ _ _ 42 [(0, .ref (pl 200)), (1, .int (iI m)), (2, .int (iI i))] [.int (iI ((c 2).2.2 i)), .int (iI m)] _ _ _ _
        refine pm_e_sim pm_a99_42 rfl ?_
        refine pm_e_top (y := iI 10) (by decide +kernel) ?_
        show pm_E _ _ _ 44 [(0, .ref (pl 200)), (1, .int (iI m)), (2, .int (iI i))] [.int (iI 10), .int (iI ((c 2).2.2 i)), .int (iI m)] _ _ _ _
        refine pm_c_ne (t := 51) pm_a99_44 rfl ⟨by omega, by omega⟩ ⟨by omega, by omega⟩ (fun h_3 => ?_) (fun h_3 => ?_)
        · skip
          show pm_E _ _ _ 51 [(0, .ref (pl 200)), (1, .int (iI m)), (2, .int (iI i))] [.int (iI m)] _ _ _ _
          refine pm_e_sim pm_a99_51 rfl ?_
          refine pm_e_top (y := iI 0) (by decide +kernel) ?_
          show pm_E _ _ _ 52 [(0, .ref (pl 200)), (1, .int (iI m)), (2, .int (iI i))] [.int (iI 0), .int (iI m)] _ _ _ _
          refine pm_e_sim pm_a99_52 rfl ?_
          refine pm_e_top (y := iI (m + 0)) (iI_add _ _) ?_
          show pm_E _ _ _ 53 [(0, .ref (pl 200)), (1, .int (iI m)), (2, .int (iI i))] [.int (iI (m + 0))] _ _ _ _
          refine pm_e_sim pm_a99_53 rfl ?_
          show pm_E _ _ _ 54 [(0, .ref (pl 200)), (1, .int (iI (m + 0))), (2, .int (iI i))] [] _ _ _ _
          refine pm_e_sim pm_a99_54 rfl ?_
          show pm_E _ _ _ 55 [(0, .ref (pl 200)), (1, .int (iI (m + 0))), (2, .int (iI i))] [.ref (pl 200)] _ _ _ _
          refine pm_i_get pm_a99_55 rfl (cg_200 hW h200) rfl ?_
          show pm_E _ _ _ 58 [(0, .ref (pl 200)), (1, .int (iI (m + 0))), (2, .int (iI i))] [.ref (pl 202)] _ _ _ _
          refine pm_e_sim pm_a99_58 rfl ?_
          show pm_E _ _ _ 59 [(0, .ref (pl 200)), (1, .int (iI (m + 0))), (2, .int (iI i))] [.int (iI i), .ref (pl 202)] _ _ _ _
          refine pm_e_sim pm_a99_59 rfl ?_
          refine pm_e_top (y := iI 1) (by decide +kernel) ?_
          show pm_E _ _ _ 60 [(0, .ref (pl 200)), (1, .int (iI (m + 0))), (2, .int (iI i))] [.int (iI 1), .int (iI i), .ref (pl 202)] _ _ _ _
          refine pm_e_sim pm_a99_60 rfl ?_
          refine pm_e_top (y := iI (i + 1)) (iI_add _ _) ?_
          show pm_E _ _ _ 61 [(0, .ref (pl 200)), (1, .int (iI (m + 0))), (2, .int (iI i))] [.int (iI (i + 1)), .ref (pl 202)] _ _ _ _
          refine pm_e_sim pm_a99_61 rfl ?_
          show pm_E _ _ _ 62 [(0, .ref (pl 200)), (1, .int (iI (m + 0))), (2, .int (iI i))] [.int (iI (m + 0)), .int (iI (i + 1)), .ref (pl 202)] _ _ _ _
          refine pm_i_ast pm_a99_62 (cg_202 hW h200) (by omega) (by omega) ⟨by omega, by omega⟩ (ca_202 hW h200 _) ?_
          show pm_E _ _ _ 63 [(0, .ref (pl 200)), (1, .int (iI (m + 0))), (2, .int (iI i))] [] _ _ _ _
          refine pm_e_inc (y := iI (i + 1)) pm_a99_63 rfl (iI_add _ _) (by decide +kernel) rfl ?_
          show pm_E _ _ _ 66 [(0, .ref (pl 200)), (1, .int (iI (m + 0))), (2, .int (iI (i + 1)))] [] _ _ _ _
          refine pm_e_goto pm_a99_66 rfl ?_
          show pm_E _ _ _ 4 [(0, .ref (pl 200)), (1, .int (iI (m + 0))), (2, .int (iI (i + 1)))] [] _ _ _ _
          rw [updA_s, updA_s]
          refine ih _ _ _ (by omega) (by omega) (by omega) (mt_step (v := m + 0) hG hi0 hm hm0 (by rw [if_neg (by omega)])) (fun _ => ?_) (by omega)
          exact updI_s _ _ _
        · skip
          show pm_E _ _ _ 47 [(0, .ref (pl 200)), (1, .int (iI m)), (2, .int (iI i))] [.int (iI m)] _ _ _ _
          refine pm_e_sim pm_a99_47 rfl ?_
          refine pm_e_top (y := iI 1) (by decide +kernel) ?_
          show pm_E _ _ _ 48 [(0, .ref (pl 200)), (1, .int (iI m)), (2, .int (iI i))] [.int (iI 1), .int (iI m)] _ _ _ _
          refine pm_e_goto pm_a99_48 rfl ?_
          show pm_E _ _ _ 52 [(0, .ref (pl 200)), (1, .int (iI m)), (2, .int (iI i))] [.int (iI 1), .int (iI m)] _ _ _ _
          refine pm_e_sim pm_a99_52 rfl ?_
          refine pm_e_top (y := iI (m + 1)) (iI_add _ _) ?_
          show pm_E _ _ _ 53 [(0, .ref (pl 200)), (1, .int (iI m)), (2, .int (iI i))] [.int (iI (m + 1))] _ _ _ _
          refine pm_e_sim pm_a99_53 rfl ?_
          show pm_E _ _ _ 54 [(0, .ref (pl 200)), (1, .int (iI (m + 1))), (2, .int (iI i))] [] _ _ _ _
          refine pm_e_sim pm_a99_54 rfl ?_
          show pm_E _ _ _ 55 [(0, .ref (pl 200)), (1, .int (iI (m + 1))), (2, .int (iI i))] [.ref (pl 200)] _ _ _ _
          refine pm_i_get pm_a99_55 rfl (cg_200 hW h200) rfl ?_
          show pm_E _ _ _ 58 [(0, .ref (pl 200)), (1, .int (iI (m + 1))), (2, .int (iI i))] [.ref (pl 202)] _ _ _ _
          refine pm_e_sim pm_a99_58 rfl ?_
          show pm_E _ _ _ 59 [(0, .ref (pl 200)), (1, .int (iI (m + 1))), (2, .int (iI i))] [.int (iI i), .ref (pl 202)] _ _ _ _
          refine pm_e_sim pm_a99_59 rfl ?_
          refine pm_e_top (y := iI 1) (by decide +kernel) ?_
          show pm_E _ _ _ 60 [(0, .ref (pl 200)), (1, .int (iI (m + 1))), (2, .int (iI i))] [.int (iI 1), .int (iI i), .ref (pl 202)] _ _ _ _
          refine pm_e_sim pm_a99_60 rfl ?_
          refine pm_e_top (y := iI (i + 1)) (iI_add _ _) ?_
          show pm_E _ _ _ 61 [(0, .ref (pl 200)), (1, .int (iI (m + 1))), (2, .int (iI i))] [.int (iI (i + 1)), .ref (pl 202)] _ _ _ _
          refine pm_e_sim pm_a99_61 rfl ?_
          show pm_E _ _ _ 62 [(0, .ref (pl 200)), (1, .int (iI (m + 1))), (2, .int (iI i))] [.int (iI (m + 1)), .int (iI (i + 1)), .ref (pl 202)] _ _ _ _
          refine pm_i_ast pm_a99_62 (cg_202 hW h200) (by omega) (by omega) ⟨by omega, by omega⟩ (ca_202 hW h200 _) ?_
          show pm_E _ _ _ 63 [(0, .ref (pl 200)), (1, .int (iI (m + 1))), (2, .int (iI i))] [] _ _ _ _
          refine pm_e_inc (y := iI (i + 1)) pm_a99_63 rfl (iI_add _ _) (by decide +kernel) rfl ?_
          show pm_E _ _ _ 66 [(0, .ref (pl 200)), (1, .int (iI (m + 1))), (2, .int (iI (i + 1)))] [] _ _ _ _
          refine pm_e_goto pm_a99_66 rfl ?_
          show pm_E _ _ _ 4 [(0, .ref (pl 200)), (1, .int (iI (m + 1))), (2, .int (iI (i + 1)))] [] _ _ _ _
          rw [updA_s, updA_s]
          refine ih _ _ _ (by omega) (by omega) (by omega) (mt_step (v := m + 1) hG hi0 hm hm0 (by rw [if_pos (by omega)])) (fun _ => ?_) (by omega)
          exact updI_s _ _ _
set_option maxHeartbeats 4000000 in
set_option maxRecDepth 100000 in
theorem C_countMet {d n : Nat} {kd pl : Nat → Nat} {s : Nat → Int} {a : Nat → Int → Int} {c : Nat → cdt} {M : List va_E} {Q : Option Value → List va_E → Nat → Nat → Prop} (hW : wf n kd pl) (h200 : al n kd pl 200) (hok : okx (rm 2) (c 2)) (k : ∀ G, mt (c 2).2.2 G (c 2).1 → Q none (ch n kd pl s (updA a 8 G) c M) 0 0) : pm_E none (d + 1) pm_mm99 0 [(0, .ref (pl 200))] [] (ch n kd pl s a c M) 0 0 Q := by
  have h9 := hok.1
  refine pm_e_sim pm_a99_0 rfl ?_
  refine pm_e_top (y := iI 0) (by decide +kernel) ?_
  show pm_E _ _ _ 1 [(0, .ref (pl 200))] [.int (iI 0)] _ _ _ _
  refine pm_e_sim pm_a99_1 rfl ?_
  show pm_E _ _ _ 2 [(0, .ref (pl 200)), (1, .int (iI 0))] [] _ _ _ _
  refine pm_e_sim pm_a99_2 rfl ?_
  refine pm_e_top (y := iI 0) (by decide +kernel) ?_
  show pm_E _ _ _ 3 [(0, .ref (pl 200)), (1, .int (iI 0))] [.int (iI 0)] _ _ _ _
  refine pm_e_sim pm_a99_3 rfl ?_
  show pm_E _ _ _ 4 [(0, .ref (pl 200)), (1, .int (iI 0)), (2, .int (iI 0))] [] _ _ _ _
  refine pm_e_heap (show ch n kd pl s a c M = ch n kd pl s (updA a 8 (a 8)) c M from by rw [updA_self]) ?_
  exact C_countMet_l hW h200 hok k ((c 2).1.toNat + 1) 0 0 (a 8) (by omega) hok.1 (by omega) ⟨fun q a b => by omega, fun h => by omega⟩ (fun h => by omega) (by omega)
set_option maxHeartbeats 4000000 in
set_option maxRecDepth 100000 in
theorem C_isMet {d n : Nat} {kd pl : Nat → Nat} {s : Nat → Int} {a : Nat → Int → Int} {c : Nat → cdt} {M : List va_E} {Q : Option Value → List va_E → Nat → Nat → Prop} {g : Int → Int} {z x e : Int} (hW : wf n kd pl) (h200 : al n kd pl 200) (hG : mt g (a 8) z) (hz : 0 < z) (hz2 : z ≤ 502) (hx : 0 ≤ x) (hxe : x ≤ e) (he : e ≤ z) (k1 : (∃ j, x ≤ j ∧ j < e ∧ g j = 10) → Q (some (.int (iI 1))) (ch n kd pl s a c M) 0 0) (k0 : (∀ j, x ≤ j → j < e → g j ≠ 10) → Q (some (.int (iI 0))) (ch n kd pl s a c M) 0 0) : pm_E none d pm_mm101 0 [(0, .ref (pl 200)), (1, .int (iI x)), (2, .int (iI e))] [] (ch n kd pl s a c M) 0 0 Q := by
  have hm := mt_met hG hx hxe he
  have b1 := hG.2 hz x hx (by omega)
  have b2 := hG.2 hz e (by omega) he
  refine pm_e_sim pm_a101_0 rfl ?_
  show pm_E _ _ _ 1 [(0, .ref (pl 200)), (1, .int (iI x)), (2, .int (iI e))] [.int (iI x)] _ _ _ _
  refine pm_i_lt (t := 37) pm_a101_1 rfl ⟨by omega, by omega⟩ (fun h_1 => ?_) (fun h_1 => ?_)
  · skip
    exfalso; omega
  · skip
    show pm_E _ _ _ 4 [(0, .ref (pl 200)), (1, .int (iI x)), (2, .int (iI e))] [] _ _ _ _
    refine pm_e_sim pm_a101_4 rfl ?_
    show pm_E _ _ _ 5 [(0, .ref (pl 200)), (1, .int (iI x)), (2, .int (iI e))] [.int (iI x)] _ _ _ _
    refine pm_e_sim pm_a101_5 rfl ?_
    show pm_E _ _ _ 6 [(0, .ref (pl 200)), (1, .int (iI x)), (2, .int (iI e))] [.int (iI e), .int (iI x)] _ _ _ _
    refine pm_c_gt (t := 37) pm_a101_6 rfl ⟨by omega, by omega⟩ ⟨by omega, by omega⟩ (fun h_2 => ?_) (fun h_2 => ?_)
    · skip
      exfalso; omega
    · skip
      show pm_E _ _ _ 9 [(0, .ref (pl 200)), (1, .int (iI x)), (2, .int (iI e))] [] _ _ _ _
      refine pm_e_sim pm_a101_9 rfl ?_
      show pm_E _ _ _ 10 [(0, .ref (pl 200)), (1, .int (iI x)), (2, .int (iI e))] [.int (iI e)] _ _ _ _
      refine pm_e_sim pm_a101_10 rfl ?_
      show pm_E _ _ _ 11 [(0, .ref (pl 200)), (1, .int (iI x)), (2, .int (iI e))] [.ref (pl 200), .int (iI e)] _ _ _ _
      refine pm_i_get pm_a101_11 rfl (cg_200 hW h200) rfl ?_
      show pm_E _ _ _ 14 [(0, .ref (pl 200)), (1, .int (iI x)), (2, .int (iI e))] [.ref (pl 202), .int (iI e)] _ _ _ _
      refine pm_i_aln pm_a101_14 (cg_202 hW h200) ?_
      show pm_E _ _ _ 15 [(0, .ref (pl 200)), (1, .int (iI x)), (2, .int (iI e))] [.int (iI 503), .int (iI e)] _ _ _ _
      refine pm_c_ge (t := 37) pm_a101_15 rfl ⟨by omega, by omega⟩ ⟨by omega, by omega⟩ (fun h_3 => ?_) (fun h_3 => ?_)
      · skip
        exfalso; omega
      · skip
        show pm_E _ _ _ 18 [(0, .ref (pl 200)), (1, .int (iI x)), (2, .int (iI e))] [] _ _ _ _
        refine pm_e_sim pm_a101_18 rfl ?_
        show pm_E _ _ _ 19 [(0, .ref (pl 200)), (1, .int (iI x)), (2, .int (iI e))] [.ref (pl 200)] _ _ _ _
        refine pm_i_get pm_a101_19 rfl (cg_200 hW h200) rfl ?_
        show pm_E _ _ _ 22 [(0, .ref (pl 200)), (1, .int (iI x)), (2, .int (iI e))] [.ref (pl 202)] _ _ _ _
        refine pm_e_sim pm_a101_22 rfl ?_
        show pm_E _ _ _ 23 [(0, .ref (pl 200)), (1, .int (iI x)), (2, .int (iI e))] [.int (iI e), .ref (pl 202)] _ _ _ _
        refine pm_i_ald pm_a101_23 (cg_202 hW h200) (by omega) (by omega) ⟨by omega, by omega⟩ ?_
        show pm_E _ _ _ 24 [(0, .ref (pl 200)), (1, .int (iI x)), (2, .int (iI e))] [.int (iI ((a 8) (e)))] _ _ _ _
        refine pm_e_sim pm_a101_24 rfl ?_
        show pm_E _ _ _ 25 [(0, .ref (pl 200)), (1, .int (iI x)), (2, .int (iI e))] [.ref (pl 200), .int (iI ((a 8) (e)))] _ _ _ _
        refine pm_i_get pm_a101_25 rfl (cg_200 hW h200) rfl ?_
        show pm_E _ _ _ 28 [(0, .ref (pl 200)), (1, .int (iI x)), (2, .int (iI e))] [.ref (pl 202), .int (iI ((a 8) (e)))] _ _ _ _
        refine pm_e_sim pm_a101_28 rfl ?_
        show pm_E _ _ _ 29 [(0, .ref (pl 200)), (1, .int (iI x)), (2, .int (iI e))] [.int (iI x), .ref (pl 202), .int (iI ((a 8) (e)))] _ _ _ _
        refine pm_i_ald pm_a101_29 (cg_202 hW h200) (by omega) (by omega) ⟨by omega, by omega⟩ ?_
        show pm_E _ _ _ 30 [(0, .ref (pl 200)), (1, .int (iI x)), (2, .int (iI e))] [.int (iI ((a 8) (x))), .int (iI ((a 8) (e)))] _ _ _ _
        refine pm_c_le (t := 37) pm_a101_30 rfl ⟨by omega, by omega⟩ ⟨by omega, by omega⟩ (fun h_4 => ?_) (fun h_4 => ?_)
        · skip
          show pm_E _ _ _ 37 [(0, .ref (pl 200)), (1, .int (iI x)), (2, .int (iI e))] [] _ _ _ _
          refine pm_e_sim pm_a101_37 rfl ?_
          refine pm_e_top (y := iI 0) (by decide +kernel) ?_
          show pm_E _ _ _ 38 [(0, .ref (pl 200)), (1, .int (iI x)), (2, .int (iI e))] [.int (iI 0)] _ _ _ _
          refine pm_e_ret pm_a101_38 rfl rfl rfl rfl rfl rfl rfl rfl ?_
          exact k0 (fun j z1 z2 z3 => by have := hm.mpr ⟨j, z1, z2, z3⟩; omega)
        · skip
          show pm_E _ _ _ 33 [(0, .ref (pl 200)), (1, .int (iI x)), (2, .int (iI e))] [] _ _ _ _
          refine pm_e_sim pm_a101_33 rfl ?_
          refine pm_e_top (y := iI 1) (by decide +kernel) ?_
          show pm_E _ _ _ 34 [(0, .ref (pl 200)), (1, .int (iI x)), (2, .int (iI e))] [.int (iI 1)] _ _ _ _
          refine pm_e_goto pm_a101_34 rfl ?_
          show pm_E _ _ _ 38 [(0, .ref (pl 200)), (1, .int (iI x)), (2, .int (iI e))] [.int (iI 1)] _ _ _ _
          refine pm_e_ret pm_a101_38 rfl rfl rfl rfl rfl rfl rfl rfl ?_
          exact k1 (hm.mp (by omega))
