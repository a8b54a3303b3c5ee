/-! THE CLASS: Reader: findToken, isNameAt -/
set_option maxHeartbeats 4000000 in
set_option maxRecDepth 100000 in
theorem C_r_findName {d n : Nat} {kd pl : Nat → Nat} {s : Nat → Int} {a : Nat → Int → Int} {c : Nat → cdt} {M : List va_E} {Q : Option Value → List va_E → Nat → Nat → Prop} (hW : wf n kd pl) (h4 : 0 ≤ s 4) (h4' : s 4 ≤ 600) (hb : ∀ j, 0 ≤ a 0 j ∧ a 0 j ≤ 255) (h0 : 0 ≤ s 11) (h1 : s 11 < s 4) (h10 : s 10 = s 11) (k1 : nEnd (a 0) (s 4) (s 11) - s 11 ≤ 8 → ∀ s', s' 9 = 1 → s' 11 = nEnd (a 0) (s 4) (s 11) → (∀ i, i ≠ 9 → i ≠ 11 → s' i = s i) → Q none (ch n kd pl s' a c M) 0 0) (k0 : 8 < nEnd (a 0) (s 4) (s 11) - s 11 → ∀ s', (s' 12 = 1 ∧ s' 13 = s 11) → (∀ i, i ≠ 9 → i ≠ 11 → i ≠ 12 → i ≠ 13 → s' i = s i) → Q none (ch n kd pl s' a c M) 0 0) : pm_E none (d + 1) pm_mm21 0 [(0, .ref (pl 9))] [] (ch n kd pl s a c M) 0 0 Q := by
  refine pm_e_sim pm_a21_0 rfl ?_
  show pm_E _ _ _ 1 [(0, .ref (pl 9))] [.ref (pl 9)] _ _ _ _
  refine pm_e_sim pm_a21_1 rfl ?_
  refine pm_e_top (y := iI 1) (by decide +kernel) ?_
  show pm_E _ _ _ 2 [(0, .ref (pl 9))] [.int (iI 1), .ref (pl 9)] _ _ _ _
  refine pm_i_put pm_a21_2 rfl (cg_9 hW) rfl (Nat.le_of_ble_eq_true rfl) (Or.inl rfl) (cw_9 hW 1) ?_
  show pm_E _ _ _ 5 [(0, .ref (pl 9))] [] _ _ _ _
  refine C_r_name_l (P := s 11) (N := s 4) hW hb h4' 601 (updS s 9 1) 0 (by show 0 ≤ s 11; omega) (by show s 11 ≤ s 4; omega) rfl (fun s1 e1 g1 => ?_) (by show s 4 - s 11 < ((601 : Nat) : Int); omega)
  have e2 : s1 11 = nEnd (a 0) (s 4) (s 11) := e1.trans (by show (rdl (a 0) 97 122 27 96 8 (s 4) (s 11) (600 + 1) (s 11) 0).1 = _; rw [rdl_fu 600 _ _ (by omega) (by omega)]; rfl)
  have a10 : s1 10 = s 10 := g1 10 (by decide)
  have r3 : s 11 ≤ nEnd (a 0) (s 4) (s 11) ∧ nEnd (a 0) (s 4) (s 11) ≤ s 4 := rdl_le (g := a 0) (lo := 97) (hi := 122) (m := 27) (z := 96) (w := 8) (n := s 4) (b := s 11) 600 (s 11) 0 (by omega)
  refine C_r_name_t hW (by omega) (by omega) (by omega) (fun h => ?_) (fun h s2 f2 g2 => ?_)
  · exact k1 (by omega) s1 (g1 9 (by decide)) e2 (fun i n9 n11 => (g1 i n11).trans (updS_o n9))
  · exact k0 (by omega) s2 ⟨f2.1, f2.2.trans (a10.trans h10)⟩ (fun i n9 n11 n12 n13 => (g2 i n12 n13).trans ((g1 i n11).trans (updS_o n9)))
set_option maxHeartbeats 4000000 in
set_option maxRecDepth 100000 in
theorem C_r_findNumber {d n : Nat} {kd pl : Nat → Nat} {s : Nat → Int} {a : Nat → Int → Int} {c : Nat → cdt} {M : List va_E} {Q : Option Value → List va_E → Nat → Nat → Prop} (hW : wf n kd pl) (h4 : 0 ≤ s 4) (h4' : s 4 ≤ 600) (hb : ∀ j, 0 ≤ a 0 j ∧ a 0 j ≤ 255) (h0 : 0 ≤ s 11) (h1 : s 11 < s 4) (h10 : s 10 = s 11) (hf1 : 48 ≤ a 0 (s 11)) (hf2 : a 0 (s 11) ≤ 57) (k1 : (rdl (a 0) 48 57 10 48 2 (s 4) (s 11) 600 (s 11) 0).1 - s 11 ≤ 2 → (rdl (a 0) 48 57 10 48 2 (s 4) (s 11) 600 (s 11) 0).2 ≤ 20 → ∀ s', s' 9 = 2 → s' 11 = (rdl (a 0) 48 57 10 48 2 (s 4) (s 11) 600 (s 11) 0).1 → (∀ i, i ≠ 9 → i ≠ 11 → s' i = s i) → Q none (ch n kd pl s' a c M) 0 0) (k0 : 2 < (rdl (a 0) 48 57 10 48 2 (s 4) (s 11) 600 (s 11) 0).1 - s 11 ∨ 20 < (rdl (a 0) 48 57 10 48 2 (s 4) (s 11) 600 (s 11) 0).2 → ∀ s', (s' 12 = 1 ∧ s' 13 = s 11) → (∀ i, i ≠ 9 → i ≠ 11 → i ≠ 12 → i ≠ 13 → s' i = s i) → Q none (ch n kd pl s' a c M) 0 0) : pm_E none (d + 2) pm_mm24 0 [(0, .ref (pl 9))] [] (ch n kd pl s a c M) 0 0 Q := by
  refine pm_e_sim pm_a24_0 rfl ?_
  show pm_E _ _ _ 1 [(0, .ref (pl 9))] [.ref (pl 9)] _ _ _ _
  refine pm_e_sim pm_a24_1 rfl ?_
  refine pm_e_top (y := iI 2) (by decide +kernel) ?_
  show pm_E _ _ _ 2 [(0, .ref (pl 9))] [.int (iI 2), .ref (pl 9)] _ _ _ _
  refine pm_i_put pm_a24_2 rfl (cg_9 hW) rfl (Nat.le_of_ble_eq_true rfl) (Or.inl rfl) (cw_9 hW 2) ?_
  show pm_E _ _ _ 5 [(0, .ref (pl 9))] [] _ _ _ _
  refine C_r_number_l (d := d + 1) (P := s 11) (N := s 4) hW hb h4' 601 (updS s 9 2) 0 (by show 0 ≤ s 11; omega) (by show s 11 ≤ s 4; omega) rfl (fun s1 e1 g1 => ?_) (by show s 4 - s 11 < ((601 : Nat) : Int); omega)
  have e2 : s1 11 = (rdl (a 0) 48 57 10 48 2 (s 4) (s 11) 600 (s 11) 0).1 := e1.trans (by show (rdl (a 0) 48 57 10 48 2 (s 4) (s 11) (600 + 1) (s 11) 0).1 = _; rw [rdl_fu 600 _ _ (by omega) (by omega)])
  have a10 : s1 10 = s 10 := g1 10 (by decide)
  have a4 : s1 4 = s 4 := g1 4 (by decide)
  have r3 := rdl_le (g := a 0) (lo := 48) (hi := 57) (m := 10) (z := 48) (w := 2) (n := s 4) (b := s 11) 600 (s 11) 0 (by omega)
  have r4 := rdl_more (g := a 0) (lo := 48) (hi := 57) (m := 10) (z := 48) (w := 2) (n := s 4) (b := s 11) (f := 599) (i := s 11) (v := 0) h1 hf1 hf2
  replace r4 : s 11 + 1 ≤ (rdl (a 0) 48 57 10 48 2 (s 4) (s 11) 600 (s 11) 0).1 := r4
  refine C_r_number_t (V := (rdl (a 0) 48 57 10 48 2 (s 4) (s 11) 600 (s 11) 0).2) hW (by omega) (by omega) hb (by omega) (by omega) (by omega) (fun q => ?_) (fun q q2 => ?_) (fun h h' => ?_) (fun h s2 f2 g2 => ?_)
  · rw [a10, h10]; exact (fig_v h1 hf1 hf2 (by omega)).1 (by omega)
  · rw [a10, h10]; exact ((fig_v h1 hf1 hf2 (by omega)).2 (by omega)).1
  · exact k1 (by omega) h' s1 (g1 9 (by decide)) e2 (fun i n9 n11 => (g1 i n11).trans (updS_o n9))
  · exact k0 (by omega) s2 ⟨f2.1, f2.2.trans (a10.trans h10)⟩ (fun i n9 n11 n12 n13 => (g2 i n12 n13).trans ((g1 i n11).trans (updS_o n9)))
set_option maxHeartbeats 4000000 in
set_option maxRecDepth 100000 in
theorem C_r_skip_l {d n : Nat} {kd pl : Nat → Nat} {a : Nat → Int → Int} {c : Nat → cdt} {M : List va_E} {Q : Option Value → List va_E → Nat → Nat → Prop} {N : Int} (hW : wf n kd pl) (hb : ∀ j, 0 ≤ a 0 j ∧ a 0 j ≤ 255) (hN : N ≤ 600) : ∀ (f : Nat) (s : Nat → Int), 0 ≤ s 11 → s 11 ≤ N → s 4 = N → (∀ s', s' 11 = skp (a 0) N f (s 11) → (∀ i, i ≠ 11 → s' i = s i) → pm_E none (d + 4) pm_mm18 43 [(0, .ref (pl 9))] [] (ch n kd pl s' a c M) 0 0 Q) → N - s 11 < (f : Int) → pm_E none (d + 4) pm_mm18 0 [(0, .ref (pl 9))] [] (ch n kd pl s a c M) 0 0 Q := by
  intro f
  induction f with
  | zero =>
    intro s h0 h1 h4 k hf
    exfalso; omega
  | succ f ih =>
    intro s h0 h1 h4 k hf
    refine pm_e_sim pm_a18_0 rfl ?_
    show pm_E _ _ _ 1 [(0, .ref (pl 9))] [.ref (pl 9)] _ _ _ _
    refine pm_i_get pm_a18_1 rfl (cg_9 hW) rfl ?_
    show pm_E _ _ _ 4 [(0, .ref (pl 9))] [.int (iI (s 11))] _ _ _ _
    refine pm_e_sim pm_a18_4 rfl ?_
    show pm_E _ _ _ 5 [(0, .ref (pl 9))] [.ref (pl 9), .int (iI (s 11))] _ _ _ _
    refine pm_i_get pm_a18_5 rfl (cg_9 hW) rfl ?_
    show pm_E _ _ _ 8 [(0, .ref (pl 9))] [.ref (pl 1), .int (iI (s 11))] _ _ _ _
    refine pm_i_get pm_a18_8 rfl (cg_1 hW) rfl ?_
    show pm_E _ _ _ 11 [(0, .ref (pl 9))] [.int (iI (s 4)), .int (iI (s 11))] _ _ _ _
    refine pm_c_ge (t := 43) pm_a18_11 rfl ⟨by omega, by omega⟩ ⟨by omega, by omega⟩ (fun h_1 => ?_) (fun h_1 => ?_)
    · skip
      show pm_E _ _ _ 43 [(0, .ref (pl 9))] [] _ _ _ _
      exact k s (by rw [skp_n (by omega)]) (fun _ _ => rfl)
    · skip
      show pm_E _ _ _ 14 [(0, .ref (pl 9))] [] _ _ _ _
      refine pm_e_sim pm_a18_14 rfl ?_
      show pm_E _ _ _ 15 [(0, .ref (pl 9))] [.ref (pl 9)] _ _ _ _
      refine pm_i_get pm_a18_15 rfl (cg_9 hW) rfl ?_
      show pm_E _ _ _ 18 [(0, .ref (pl 9))] [.ref (pl 1)] _ _ _ _
      refine pm_e_sim pm_a18_18 rfl ?_
      show pm_E _ _ _ 19 [(0, .ref (pl 9))] [.ref (pl 9), .ref (pl 1)] _ _ _ _
      refine pm_i_get pm_a18_19 rfl (cg_9 hW) rfl ?_
      show pm_E _ _ _ 22 [(0, .ref (pl 9))] [.int (iI (s 11)), .ref (pl 1)] _ _ _ _
      refine pm_i_callv (k := (pl 1)) (T2 := pm_mm19) pm_a18_22 rfl rfl rfl (cg_1 hW) ⟨Nat.le_of_ble_eq_true rfl, Nat.le_of_ble_eq_true rfl, rfl, by decide +kernel⟩ ?_
      show pm_E none _ _ 0 [(0, .ref (pl 1)), (1, .int (iI (s 11)))] [] _ _ _ _
      refine C_tat hW (by show 0 ≤ s 4; omega) (by show s 4 ≤ 600; omega) ⟨by omega, by omega⟩ (fun _ _ => ?_) (fun z9 => by exfalso; have z8 : s 11 < 0 ∨ s 4 ≤ s 11 := z9; omega)
      obtain ⟨_, _⟩ := hb (s 11)
      show pm_E _ _ _ 25 [(0, .ref (pl 9))] [.int (iI (a 0 (s 11)))] _ _ _ _
      refine pm_e_sim pm_a18_25 rfl ?_
      refine pm_e_top (y := iI 32) (by decide +kernel) ?_
      show pm_E _ _ _ 27 [(0, .ref (pl 9))] [.int (iI 32), .int (iI (a 0 (s 11)))] _ _ _ _
      refine pm_c_ne (t := 43) pm_a18_27 rfl ⟨by omega, by omega⟩ ⟨by omega, by omega⟩ (fun h_2 => ?_) (fun h_2 => ?_)
      · skip
        show pm_E _ _ _ 43 [(0, .ref (pl 9))] [] _ _ _ _
        exact k s (by rw [skp_n (by omega)]) (fun _ _ => rfl)
      · skip
        show pm_E _ _ _ 30 [(0, .ref (pl 9))] [] _ _ _ _
        refine pm_e_sim pm_a18_30 rfl ?_
        show pm_E _ _ _ 31 [(0, .ref (pl 9))] [.ref (pl 9)] _ _ _ _
        refine pm_e_sim pm_a18_31 rfl ?_
        show pm_E _ _ _ 32 [(0, .ref (pl 9))] [.ref (pl 9), .ref (pl 9)] _ _ _ _
        refine pm_i_get pm_a18_32 rfl (cg_9 hW) rfl ?_
        show pm_E _ _ _ 35 [(0, .ref (pl 9))] [.int (iI (s 11)), .ref (pl 9)] _ _ _ _
        refine pm_e_sim pm_a18_35 rfl ?_
        refine pm_e_top (y := iI 1) (by decide +kernel) ?_
        show pm_E _ _ _ 36 [(0, .ref (pl 9))] [.int (iI 1), .int (iI (s 11)), .ref (pl 9)] _ _ _ _
        refine pm_e_sim pm_a18_36 rfl ?_
        refine pm_e_top (y := iI (s 11 + 1)) (iI_add _ _) ?_
        show pm_E _ _ _ 37 [(0, .ref (pl 9))] [.int (iI (s 11 + 1)), .ref (pl 9)] _ _ _ _
        refine pm_i_put pm_a18_37 rfl (cg_9 hW) rfl (Nat.le_of_ble_eq_true rfl) (Or.inl rfl) (cw_11 hW (s 11 + 1)) ?_
        show pm_E _ _ _ 40 [(0, .ref (pl 9))] [] _ _ _ _
        refine pm_e_goto pm_a18_40 rfl ?_
        show pm_E _ _ _ 0 [(0, .ref (pl 9))] [] _ _ _ _
        refine ih (updS s 11 (s 11 + 1)) (by show 0 ≤ s 11 + 1; omega) (by show s 11 + 1 ≤ N; omega) h4 (fun s' e g => k s' (e.trans ?_) (fun i hi => (g i hi).trans (updS_o hi))) (by show N - (s 11 + 1) < (f : Int); omega)
        show skp (a 0) N f (s 11 + 1) = skp (a 0) N (f + 1) (s 11)
        rw [skp_y (by omega) (by omega)]
set_option maxHeartbeats 4000000 in
set_option maxRecDepth 100000 in
theorem C_r_tok_t {d n : Nat} {kd pl : Nat → Nat} {s : Nat → Int} {a : Nat → Int → Int} {c : Nat → cdt} {M : List va_E} {Q : Option Value → List va_E → Nat → Nat → Prop} {i0 : Int} (hW : wf n kd pl) (h4 : 0 ≤ s 4) (h4' : s 4 ≤ 600) (hb : ∀ j, 0 ≤ a 0 j ∧ a 0 j ≤ 255) (h0 : 0 ≤ s 11) (h1 : s 11 ≤ s 4) (h12 : s 12 = 0) (hP : skp (a 0) (s 4) 600 i0 = s 11) (k : ∀ s', (∀ i, i ≠ 9 → i ≠ 10 → i ≠ 11 → i ≠ 12 → i ≠ 13 → s' i = s i) → tkC (a 0) (s 4) i0 (s 13) s' → Q none (ch n kd pl s' a c M) 0 0) : pm_E none (d + 4) pm_mm18 43 [(0, .ref (pl 9))] [] (ch n kd pl s a c M) 0 0 Q := by
  refine pm_e_sim pm_a18_43 rfl ?_
  show pm_E _ _ _ 44 [(0, .ref (pl 9))] [.ref (pl 9)] _ _ _ _
  refine pm_e_sim pm_a18_44 rfl ?_
  show pm_E _ _ _ 45 [(0, .ref (pl 9))] [.ref (pl 9), .ref (pl 9)] _ _ _ _
  refine pm_i_get pm_a18_45 rfl (cg_9 hW) rfl ?_
  show pm_E _ _ _ 48 [(0, .ref (pl 9))] [.int (iI (s 11)), .ref (pl 9)] _ _ _ _
  refine pm_i_put pm_a18_48 rfl (cg_9 hW) rfl (Nat.le_of_ble_eq_true rfl) (Or.inl rfl) (cw_10 hW (s 11)) ?_
  show pm_E _ _ _ 51 [(0, .ref (pl 9))] [] _ _ _ _
  refine pm_e_sim pm_a18_51 rfl ?_
  show pm_E _ _ _ 52 [(0, .ref (pl 9))] [.ref (pl 9)] _ _ _ _
  refine pm_i_get pm_a18_52 rfl (cg_9 hW) rfl ?_
  show pm_E _ _ _ 55 [(0, .ref (pl 9))] [.ref (pl 1)] _ _ _ _
  refine pm_e_sim pm_a18_55 rfl ?_
  show pm_E _ _ _ 56 [(0, .ref (pl 9))] [.ref (pl 9), .ref (pl 1)] _ _ _ _
  refine pm_i_get pm_a18_56 rfl (cg_9 hW) rfl ?_
  show pm_E _ _ _ 59 [(0, .ref (pl 9))] [.int (iI (s 11)), .ref (pl 1)] _ _ _ _
  refine pm_i_callv (k := (pl 1)) (T2 := pm_mm19) pm_a18_59 rfl rfl rfl (cg_1 hW) ⟨Nat.le_of_ble_eq_true rfl, Nat.le_of_ble_eq_true rfl, rfl, by decide +kernel⟩ ?_
  show pm_E none _ _ 0 [(0, .ref (pl 1)), (1, .int (iI (s 11)))] [] _ _ _ _
  refine C_tat hW h4 h4' ⟨by omega, by omega⟩ (fun u_1 v_1 => ?_) (fun u_1 => ?_)
  · skip
    replace v_1 : s 11 < s 4 := v_1
    obtain ⟨_, _⟩ := hb (s 11)
    show pm_E _ _ _ 62 [(0, .ref (pl 9))] [.int (iI (a 0 (s 11)))] _ _ _ _
    refine pm_e_sim pm_a18_62 rfl ?_
    show pm_E _ _ _ 63 [(0, .ref (pl 9)), (1, .int (iI (a 0 (s 11))))] [] _ _ _ _
    refine pm_e_sim pm_a18_63 rfl ?_
    show pm_E _ _ _ 64 [(0, .ref (pl 9)), (1, .int (iI (a 0 (s 11))))] [.ref (pl 9)] _ _ _ _
    refine pm_i_get pm_a18_64 rfl (cg_9 hW) rfl ?_
    show pm_E _ _ _ 67 [(0, .ref (pl 9)), (1, .int (iI (a 0 (s 11))))] [.int (iI (s 11))] _ _ _ _
    refine pm_e_sim pm_a18_67 rfl ?_
    show pm_E _ _ _ 68 [(0, .ref (pl 9)), (1, .int (iI (a 0 (s 11))))] [.ref (pl 9), .int (iI (s 11))] _ _ _ _
    refine pm_i_get pm_a18_68 rfl (cg_9 hW) rfl ?_
    show pm_E _ _ _ 71 [(0, .ref (pl 9)), (1, .int (iI (a 0 (s 11))))] [.ref (pl 1), .int (iI (s 11))] _ _ _ _
    refine pm_i_get pm_a18_71 rfl (cg_1 hW) rfl ?_
    show pm_E _ _ _ 74 [(0, .ref (pl 9)), (1, .int (iI (a 0 (s 11))))] [.int (iI (s 4)), .int (iI (s 11))] _ _ _ _
    refine pm_c_lt (t := 85) pm_a18_74 rfl ⟨by omega, by omega⟩ ⟨by omega, by omega⟩ (fun h_2 => ?_) (fun h_2 => ?_)
    · skip
      show pm_E _ _ _ 85 [(0, .ref (pl 9)), (1, .int (iI (a 0 (s 11))))] [] _ _ _ _
      refine pm_e_sim pm_a18_85 rfl ?_
      show pm_E _ _ _ 86 [(0, .ref (pl 9)), (1, .int (iI (a 0 (s 11))))] [.int (iI (a 0 (s 11)))] _ _ _ _
      refine pm_e_call (T2 := pm_mm20) pm_a18_86 rfl rfl rfl rfl rfl rfl rfl rfl rfl ?_
      show pm_E none _ _ 0 [(0, .int (iI (a 0 (s 11))))] [] _ _ _ _
      refine C_isSmall ⟨by omega, by omega⟩ (fun t_3 o_3 => ?_) (fun t_3 => ?_)
      · skip
        show pm_E _ _ _ 89 [(0, .ref (pl 9)), (1, .int (iI (a 0 (s 11))))] [.int (iI 1)] _ _ _ _
        refine pm_e_iff pm_a18_89 rfl (by decide +kernel) ?_
        show pm_E _ _ _ 92 [(0, .ref (pl 9)), (1, .int (iI (a 0 (s 11))))] [] _ _ _ _
        refine pm_e_sim pm_a18_92 rfl ?_
        show pm_E _ _ _ 93 [(0, .ref (pl 9)), (1, .int (iI (a 0 (s 11))))] [.ref (pl 9)] _ _ _ _
        refine pm_i_callv (k := (pl 9)) (T2 := pm_mm21) pm_a18_93 rfl rfl rfl (cg_9 hW) ⟨Nat.le_of_ble_eq_true rfl, Nat.le_of_ble_eq_true rfl, rfl, by decide +kernel⟩ ?_
        show pm_E none _ _ 0 [(0, .ref (pl 9))] [] _ _ _ _
        refine C_r_findName hW h4 h4' hb (by show 0 ≤ s 11; omega) (by show s 11 < s 4; omega) rfl (fun q s1 e9 e11 g => ?_) (fun q s1 e12 g => ?_)
        · skip
          show pm_E _ _ _ 96 [(0, .ref (pl 9)), (1, .int (iI (a 0 (s 11))))] [] _ _ _ _
          refine pm_e_goto pm_a18_96 rfl ?_
          show pm_E _ _ _ 188 [(0, .ref (pl 9)), (1, .int (iI (a 0 (s 11))))] [] _ _ _ _
          refine pm_e_ret pm_a18_188 rfl rfl rfl rfl rfl rfl rfl rfl ?_
          exact k s1 (fun i n9 n10 n11 n12 n13 => (g i n9 n11).trans (updS_o n10)) (tkC_k (tok_1 hP (by omega) (by omega) (by omega) q) (by decide) ((g 12 (by decide) (by decide)).trans h12) (g 13 (by decide) (by decide)) e9 (g 10 (by decide) (by decide)) e11)
        · skip
          show pm_E _ _ _ 96 [(0, .ref (pl 9)), (1, .int (iI (a 0 (s 11))))] [] _ _ _ _
          refine pm_e_goto pm_a18_96 rfl ?_
          show pm_E _ _ _ 188 [(0, .ref (pl 9)), (1, .int (iI (a 0 (s 11))))] [] _ _ _ _
          refine pm_e_ret pm_a18_188 rfl rfl rfl rfl rfl rfl rfl rfl ?_
          exact k s1 (fun i n9 n10 n11 n12 n13 => (g i n9 n11 n12 n13).trans (updS_o n10)) (tkC_f (tok_1f hP (by omega) (by omega) (by omega) q) e12)
      · skip
        show pm_E _ _ _ 89 [(0, .ref (pl 9)), (1, .int (iI (a 0 (s 11))))] [.int (iI 0)] _ _ _ _
        refine pm_e_ift pm_a18_89 rfl (by decide +kernel) ?_
        show pm_E _ _ _ 99 [(0, .ref (pl 9)), (1, .int (iI (a 0 (s 11))))] [] _ _ _ _
        refine pm_e_sim pm_a18_99 rfl ?_
        show pm_E _ _ _ 100 [(0, .ref (pl 9)), (1, .int (iI (a 0 (s 11))))] [.int (iI (a 0 (s 11)))] _ _ _ _
        refine pm_e_call (T2 := pm_mm23) pm_a18_100 rfl rfl rfl rfl rfl rfl rfl rfl rfl ?_
        show pm_E none _ _ 0 [(0, .int (iI (a 0 (s 11))))] [] _ _ _ _
        refine C_isFigure ⟨by omega, by omega⟩ (fun t_4 o_4 => ?_) (fun t_4 => ?_)
        · skip
          show pm_E _ _ _ 103 [(0, .ref (pl 9)), (1, .int (iI (a 0 (s 11))))] [.int (iI 1)] _ _ _ _
          refine pm_e_iff pm_a18_103 rfl (by decide +kernel) ?_
          show pm_E _ _ _ 106 [(0, .ref (pl 9)), (1, .int (iI (a 0 (s 11))))] [] _ _ _ _
          refine pm_e_sim pm_a18_106 rfl ?_
          show pm_E _ _ _ 107 [(0, .ref (pl 9)), (1, .int (iI (a 0 (s 11))))] [.ref (pl 9)] _ _ _ _
          refine pm_i_callv (k := (pl 9)) (T2 := pm_mm24) pm_a18_107 rfl rfl rfl (cg_9 hW) ⟨Nat.le_of_ble_eq_true rfl, Nat.le_of_ble_eq_true rfl, rfl, by decide +kernel⟩ ?_
          show pm_E none _ _ 0 [(0, .ref (pl 9))] [] _ _ _ _
          refine C_r_findNumber hW h4 h4' hb (by show 0 ≤ s 11; omega) (by show s 11 < s 4; omega) rfl (by show 48 ≤ a 0 (s 11); omega) (by show a 0 (s 11) ≤ 57; omega) (fun q q' s1 e9 e11 g => ?_) (fun q s1 e12 g => ?_)
          · skip
            show pm_E _ _ _ 110 [(0, .ref (pl 9)), (1, .int (iI (a 0 (s 11))))] [] _ _ _ _
            refine pm_e_goto pm_a18_110 rfl ?_
            show pm_E _ _ _ 188 [(0, .ref (pl 9)), (1, .int (iI (a 0 (s 11))))] [] _ _ _ _
            refine pm_e_ret pm_a18_188 rfl rfl rfl rfl rfl rfl rfl rfl ?_
            exact k s1 (fun i n9 n10 n11 n12 n13 => (g i n9 n11).trans (updS_o n10)) (tkC_k (tok_2 hP (by omega) (by omega) (by omega) q q') (by decide) ((g 12 (by decide) (by decide)).trans h12) (g 13 (by decide) (by decide)) e9 (g 10 (by decide) (by decide)) e11)
          · skip
            show pm_E _ _ _ 110 [(0, .ref (pl 9)), (1, .int (iI (a 0 (s 11))))] [] _ _ _ _
            refine pm_e_goto pm_a18_110 rfl ?_
            show pm_E _ _ _ 188 [(0, .ref (pl 9)), (1, .int (iI (a 0 (s 11))))] [] _ _ _ _
            refine pm_e_ret pm_a18_188 rfl rfl rfl rfl rfl rfl rfl rfl ?_
            exact k s1 (fun i n9 n10 n11 n12 n13 => (g i n9 n11 n12 n13).trans (updS_o n10)) (tkC_f (tok_2f hP (by omega) (by omega) (by omega) q) e12)
        · skip
          show pm_E _ _ _ 103 [(0, .ref (pl 9)), (1, .int (iI (a 0 (s 11))))] [.int (iI 0)] _ _ _ _
          refine pm_e_ift pm_a18_103 rfl (by decide +kernel) ?_
          show pm_E _ _ _ 113 [(0, .ref (pl 9)), (1, .int (iI (a 0 (s 11))))] [] _ _ _ _
          refine pm_e_rd pm_a18_113 rfl rfl rfl ?_
          show pm_E _ _ _ 115 [(0, .ref (pl 9)), (1, .int (iI (a 0 (s 11))))] [.retAddr 1] _ _ _ _
          refine pm_e_sim pm_a18_115 rfl ?_
          show pm_E _ _ _ 116 [(0, .ref (pl 9)), (1, .int (iI (a 0 (s 11))))] [.int (iI (a 0 (s 11))), .retAddr 1] _ _ _ _
          refine pm_e_sim pm_a18_116 rfl ?_
          refine pm_e_top (y := iI (a 0 (s 11))) (i2c_b (by omega) (by omega)) ?_
          show pm_E _ _ _ 117 [(0, .ref (pl 9)), (1, .int (iI (a 0 (s 11))))] [.int (iI (a 0 (s 11))), .retAddr 1] _ _ _ _
          refine pm_e_call (T2 := pm_mm215) pm_a18_117 rfl rfl rfl rfl rfl rfl rfl rfl rfl ?_
          show pm_E none _ _ 0 [(0, .retAddr 1), (1, .int (iI (a 0 (s 11))))] [] _ _ _ _
          refine J_ix ⟨by omega, by omega⟩ ?_
          obtain ⟨x_1, x_2, x_3, x_4⟩ := ixS_lof (a 0 (s 11))
          show pm_E _ _ _ 120 [(0, .ref (pl 9)), (1, .int (iI (a 0 (s 11))))] [.int (iI (ixS (a 0 (s 11))))] _ _ _ _
          refine pm_i_lt (t := 141) pm_a18_120 rfl ⟨by omega, by omega⟩ (fun h_5 => ?_) (fun h_5 => ?_)
          · skip
            show pm_E _ _ _ 141 [(0, .ref (pl 9)), (1, .int (iI (a 0 (s 11))))] [] _ _ _ _
            refine pm_e_sim pm_a18_141 rfl ?_
            show pm_E _ _ _ 142 [(0, .ref (pl 9)), (1, .int (iI (a 0 (s 11))))] [.int (iI (a 0 (s 11)))] _ _ _ _
            refine pm_e_sim pm_a18_142 rfl ?_
            refine pm_e_top (y := iI 40) (by decide +kernel) ?_
            show pm_E _ _ _ 144 [(0, .ref (pl 9)), (1, .int (iI (a 0 (s 11))))] [.int (iI 40), .int (iI (a 0 (s 11)))] _ _ _ _
            refine pm_c_eq (t := 165) pm_a18_144 rfl ⟨by omega, by omega⟩ ⟨by omega, by omega⟩ (fun h_6 => ?_) (fun h_6 => ?_)
            · skip
              show pm_E _ _ _ 165 [(0, .ref (pl 9)), (1, .int (iI (a 0 (s 11))))] [] _ _ _ _
              refine pm_e_sim pm_a18_165 rfl ?_
              show pm_E _ _ _ 166 [(0, .ref (pl 9)), (1, .int (iI (a 0 (s 11))))] [.ref (pl 9)] _ _ _ _
              refine pm_e_sim pm_a18_166 rfl ?_
              refine pm_e_top (y := iI 4) (by decide +kernel) ?_
              show pm_E _ _ _ 167 [(0, .ref (pl 9)), (1, .int (iI (a 0 (s 11))))] [.int (iI 4), .ref (pl 9)] _ _ _ _
              refine pm_i_put pm_a18_167 rfl (cg_9 hW) rfl (Nat.le_of_ble_eq_true rfl) (Or.inl rfl) (cw_9 hW 4) ?_
              show pm_E _ _ _ 170 [(0, .ref (pl 9)), (1, .int (iI (a 0 (s 11))))] [] _ _ _ _
              refine pm_e_sim pm_a18_170 rfl ?_
              show pm_E _ _ _ 171 [(0, .ref (pl 9)), (1, .int (iI (a 0 (s 11))))] [.ref (pl 9)] _ _ _ _
              refine pm_e_sim pm_a18_171 rfl ?_
              show pm_E _ _ _ 172 [(0, .ref (pl 9)), (1, .int (iI (a 0 (s 11))))] [.ref (pl 9), .ref (pl 9)] _ _ _ _
              refine pm_i_get pm_a18_172 rfl (cg_9 hW) rfl ?_
              show pm_E _ _ _ 175 [(0, .ref (pl 9)), (1, .int (iI (a 0 (s 11))))] [.int (iI (s 11)), .ref (pl 9)] _ _ _ _
              refine pm_e_sim pm_a18_175 rfl ?_
              refine pm_e_top (y := iI 1) (by decide +kernel) ?_
              show pm_E _ _ _ 176 [(0, .ref (pl 9)), (1, .int (iI (a 0 (s 11))))] [.int (iI 1), .int (iI (s 11)), .ref (pl 9)] _ _ _ _
              refine pm_e_sim pm_a18_176 rfl ?_
              refine pm_e_top (y := iI (s 11 + 1)) (iI_add _ _) ?_
              show pm_E _ _ _ 177 [(0, .ref (pl 9)), (1, .int (iI (a 0 (s 11))))] [.int (iI (s 11 + 1)), .ref (pl 9)] _ _ _ _
              refine pm_i_put pm_a18_177 rfl (cg_9 hW) rfl (Nat.le_of_ble_eq_true rfl) (Or.inl rfl) (cw_11 hW (s 11 + 1)) ?_
              show pm_E _ _ _ 180 [(0, .ref (pl 9)), (1, .int (iI (a 0 (s 11))))] [] _ _ _ _
              refine pm_e_goto pm_a18_180 rfl ?_
              show pm_E _ _ _ 188 [(0, .ref (pl 9)), (1, .int (iI (a 0 (s 11))))] [] _ _ _ _
              refine pm_e_ret pm_a18_188 rfl rfl rfl rfl rfl rfl rfl rfl ?_
              exact k _ (fun i n9 n10 n11 n12 n13 => by simp only [updS]; rw [if_neg n11, if_neg n9, if_neg n10]) (tkC_k (tok_4 hP (by omega) (by omega) (by omega) (x_3 (by omega)) (by omega)) (by decide) h12 rfl rfl rfl rfl)
            · skip
              show pm_E _ _ _ 147 [(0, .ref (pl 9)), (1, .int (iI (a 0 (s 11))))] [] _ _ _ _
              refine pm_e_sim pm_a18_147 rfl ?_
              show pm_E _ _ _ 148 [(0, .ref (pl 9)), (1, .int (iI (a 0 (s 11))))] [.int (iI (a 0 (s 11)))] _ _ _ _
              refine pm_e_sim pm_a18_148 rfl ?_
              refine pm_e_top (y := iI 41) (by decide +kernel) ?_
              show pm_E _ _ _ 150 [(0, .ref (pl 9)), (1, .int (iI (a 0 (s 11))))] [.int (iI 41), .int (iI (a 0 (s 11)))] _ _ _ _
              refine pm_c_eq (t := 165) pm_a18_150 rfl ⟨by omega, by omega⟩ ⟨by omega, by omega⟩ (fun h_7 => ?_) (fun h_7 => ?_)
              · skip
                show pm_E _ _ _ 165 [(0, .ref (pl 9)), (1, .int (iI (a 0 (s 11))))] [] _ _ _ _
                refine pm_e_sim pm_a18_165 rfl ?_
                show pm_E _ _ _ 166 [(0, .ref (pl 9)), (1, .int (iI (a 0 (s 11))))] [.ref (pl 9)] _ _ _ _
                refine pm_e_sim pm_a18_166 rfl ?_
                refine pm_e_top (y := iI 4) (by decide +kernel) ?_
                show pm_E _ _ _ 167 [(0, .ref (pl 9)), (1, .int (iI (a 0 (s 11))))] [.int (iI 4), .ref (pl 9)] _ _ _ _
                refine pm_i_put pm_a18_167 rfl (cg_9 hW) rfl (Nat.le_of_ble_eq_true rfl) (Or.inl rfl) (cw_9 hW 4) ?_
                show pm_E _ _ _ 170 [(0, .ref (pl 9)), (1, .int (iI (a 0 (s 11))))] [] _ _ _ _
                refine pm_e_sim pm_a18_170 rfl ?_
                show pm_E _ _ _ 171 [(0, .ref (pl 9)), (1, .int (iI (a 0 (s 11))))] [.ref (pl 9)] _ _ _ _
                refine pm_e_sim pm_a18_171 rfl ?_
                show pm_E _ _ _ 172 [(0, .ref (pl 9)), (1, .int (iI (a 0 (s 11))))] [.ref (pl 9), .ref (pl 9)] _ _ _ _
                refine pm_i_get pm_a18_172 rfl (cg_9 hW) rfl ?_
                show pm_E _ _ _ 175 [(0, .ref (pl 9)), (1, .int (iI (a 0 (s 11))))] [.int (iI (s 11)), .ref (pl 9)] _ _ _ _
                refine pm_e_sim pm_a18_175 rfl ?_
                refine pm_e_top (y := iI 1) (by decide +kernel) ?_
                show pm_E _ _ _ 176 [(0, .ref (pl 9)), (1, .int (iI (a 0 (s 11))))] [.int (iI 1), .int (iI (s 11)), .ref (pl 9)] _ _ _ _
                refine pm_e_sim pm_a18_176 rfl ?_
                refine pm_e_top (y := iI (s 11 + 1)) (iI_add _ _) ?_
                show pm_E _ _ _ 177 [(0, .ref (pl 9)), (1, .int (iI (a 0 (s 11))))] [.int (iI (s 11 + 1)), .ref (pl 9)] _ _ _ _
                refine pm_i_put pm_a18_177 rfl (cg_9 hW) rfl (Nat.le_of_ble_eq_true rfl) (Or.inl rfl) (cw_11 hW (s 11 + 1)) ?_
                show pm_E _ _ _ 180 [(0, .ref (pl 9)), (1, .int (iI (a 0 (s 11))))] [] _ _ _ _
                refine pm_e_goto pm_a18_180 rfl ?_
                show pm_E _ _ _ 188 [(0, .ref (pl 9)), (1, .int (iI (a 0 (s 11))))] [] _ _ _ _
                refine pm_e_ret pm_a18_188 rfl rfl rfl rfl rfl rfl rfl rfl ?_
                exact k _ (fun i n9 n10 n11 n12 n13 => by simp only [updS]; rw [if_neg n11, if_neg n9, if_neg n10]) (tkC_k (tok_4 hP (by omega) (by omega) (by omega) (x_3 (by omega)) (by omega)) (by decide) h12 rfl rfl rfl rfl)
              · skip
                show pm_E _ _ _ 153 [(0, .ref (pl 9)), (1, .int (iI (a 0 (s 11))))] [] _ _ _ _
                refine pm_e_sim pm_a18_153 rfl ?_
                show pm_E _ _ _ 154 [(0, .ref (pl 9)), (1, .int (iI (a 0 (s 11))))] [.int (iI (a 0 (s 11)))] _ _ _ _
                refine pm_e_sim pm_a18_154 rfl ?_
                refine pm_e_top (y := iI 92) (by decide +kernel) ?_
                show pm_E _ _ _ 156 [(0, .ref (pl 9)), (1, .int (iI (a 0 (s 11))))] [.int (iI 92), .int (iI (a 0 (s 11)))] _ _ _ _
                refine pm_c_eq (t := 165) pm_a18_156 rfl ⟨by omega, by omega⟩ ⟨by omega, by omega⟩ (fun h_8 => ?_) (fun h_8 => ?_)
                · skip
                  show pm_E _ _ _ 165 [(0, .ref (pl 9)), (1, .int (iI (a 0 (s 11))))] [] _ _ _ _
                  refine pm_e_sim pm_a18_165 rfl ?_
                  show pm_E _ _ _ 166 [(0, .ref (pl 9)), (1, .int (iI (a 0 (s 11))))] [.ref (pl 9)] _ _ _ _
                  refine pm_e_sim pm_a18_166 rfl ?_
                  refine pm_e_top (y := iI 4) (by decide +kernel) ?_
                  show pm_E _ _ _ 167 [(0, .ref (pl 9)), (1, .int (iI (a 0 (s 11))))] [.int (iI 4), .ref (pl 9)] _ _ _ _
                  refine pm_i_put pm_a18_167 rfl (cg_9 hW) rfl (Nat.le_of_ble_eq_true rfl) (Or.inl rfl) (cw_9 hW 4) ?_
                  show pm_E _ _ _ 170 [(0, .ref (pl 9)), (1, .int (iI (a 0 (s 11))))] [] _ _ _ _
                  refine pm_e_sim pm_a18_170 rfl ?_
                  show pm_E _ _ _ 171 [(0, .ref (pl 9)), (1, .int (iI (a 0 (s 11))))] [.ref (pl 9)] _ _ _ _
                  refine pm_e_sim pm_a18_171 rfl ?_
                  show pm_E _ _ _ 172 [(0, .ref (pl 9)), (1, .int (iI (a 0 (s 11))))] [.ref (pl 9), .ref (pl 9)] _ _ _ _
                  refine pm_i_get pm_a18_172 rfl (cg_9 hW) rfl ?_
                  show pm_E _ _ _ 175 [(0, .ref (pl 9)), (1, .int (iI (a 0 (s 11))))] [.int (iI (s 11)), .ref (pl 9)] _ _ _ _
                  refine pm_e_sim pm_a18_175 rfl ?_
                  refine pm_e_top (y := iI 1) (by decide +kernel) ?_
                  show pm_E _ _ _ 176 [(0, .ref (pl 9)), (1, .int (iI (a 0 (s 11))))] [.int (iI 1), .int (iI (s 11)), .ref (pl 9)] _ _ _ _
                  refine pm_e_sim pm_a18_176 rfl ?_
                  refine pm_e_top (y := iI (s 11 + 1)) (iI_add _ _) ?_
                  show pm_E _ _ _ 177 [(0, .ref (pl 9)), (1, .int (iI (a 0 (s 11))))] [.int (iI (s 11 + 1)), .ref (pl 9)] _ _ _ _
                  refine pm_i_put pm_a18_177 rfl (cg_9 hW) rfl (Nat.le_of_ble_eq_true rfl) (Or.inl rfl) (cw_11 hW (s 11 + 1)) ?_
                  show pm_E _ _ _ 180 [(0, .ref (pl 9)), (1, .int (iI (a 0 (s 11))))] [] _ _ _ _
                  refine pm_e_goto pm_a18_180 rfl ?_
                  show pm_E _ _ _ 188 [(0, .ref (pl 9)), (1, .int (iI (a 0 (s 11))))] [] _ _ _ _
                  refine pm_e_ret pm_a18_188 rfl rfl rfl rfl rfl rfl rfl rfl ?_
                  exact k _ (fun i n9 n10 n11 n12 n13 => by simp only [updS]; rw [if_neg n11, if_neg n9, if_neg n10]) (tkC_k (tok_4 hP (by omega) (by omega) (by omega) (x_3 (by omega)) (by omega)) (by decide) h12 rfl rfl rfl rfl)
                · skip
                  show pm_E _ _ _ 159 [(0, .ref (pl 9)), (1, .int (iI (a 0 (s 11))))] [] _ _ _ _
                  refine pm_e_sim pm_a18_159 rfl ?_
                  show pm_E _ _ _ 160 [(0, .ref (pl 9)), (1, .int (iI (a 0 (s 11))))] [.int (iI (a 0 (s 11)))] _ _ _ _
                  refine pm_e_sim pm_a18_160 rfl ?_
                  refine pm_e_top (y := iI 46) (by decide +kernel) ?_
                  show pm_E _ _ _ 162 [(0, .ref (pl 9)), (1, .int (iI (a 0 (s 11))))] [.int (iI 46), .int (iI (a 0 (s 11)))] _ _ _ _
                  refine pm_c_ne (t := 183) pm_a18_162 rfl ⟨by omega, by omega⟩ ⟨by omega, by omega⟩ (fun h_9 => ?_) (fun h_9 => ?_)
                  · skip
                    show pm_E _ _ _ 183 [(0, .ref (pl 9)), (1, .int (iI (a 0 (s 11))))] [] _ _ _ _
                    refine pm_e_sim pm_a18_183 rfl ?_
                    show pm_E _ _ _ 184 [(0, .ref (pl 9)), (1, .int (iI (a 0 (s 11))))] [.ref (pl 9)] _ _ _ _
                    refine pm_e_sim pm_a18_184 rfl ?_
                    refine pm_e_top (y := iI 1) (by decide +kernel) ?_
                    show pm_E _ _ _ 185 [(0, .ref (pl 9)), (1, .int (iI (a 0 (s 11))))] [.int (iI 1), .ref (pl 9)] _ _ _ _
                    refine pm_i_callv (k := (pl 9)) (T2 := pm_mm22) pm_a18_185 rfl rfl rfl (cg_9 hW) ⟨Nat.le_of_ble_eq_true rfl, Nat.le_of_ble_eq_true rfl, rfl, by decide +kernel⟩ ?_
                    show pm_E none _ _ 0 [(0, .ref (pl 9)), (1, .int (iI 1))] [] _ _ _ _
                    refine C_r_fail hW (fun s1 e12 g => ?_)
                    show pm_E _ _ _ 188 [(0, .ref (pl 9)), (1, .int (iI (a 0 (s 11))))] [] _ _ _ _
                    refine pm_e_ret pm_a18_188 rfl rfl rfl rfl rfl rfl rfl rfl ?_
                    exact k s1 (fun i n9 n10 n11 n12 n13 => (g i n12 n13).trans (updS_o n10)) (tkC_f (tok_5 hP (by omega) (by omega) (by omega) (x_3 (by omega)) (by omega)) e12)
                  · skip
                    show pm_E _ _ _ 165 [(0, .ref (pl 9)), (1, .int (iI (a 0 (s 11))))] [] _ _ _ _
                    refine pm_e_sim pm_a18_165 rfl ?_
                    show pm_E _ _ _ 166 [(0, .ref (pl 9)), (1, .int (iI (a 0 (s 11))))] [.ref (pl 9)] _ _ _ _
                    refine pm_e_sim pm_a18_166 rfl ?_
                    refine pm_e_top (y := iI 4) (by decide +kernel) ?_
                    show pm_E _ _ _ 167 [(0, .ref (pl 9)), (1, .int (iI (a 0 (s 11))))] [.int (iI 4), .ref (pl 9)] _ _ _ _
                    refine pm_i_put pm_a18_167 rfl (cg_9 hW) rfl (Nat.le_of_ble_eq_true rfl) (Or.inl rfl) (cw_9 hW 4) ?_
                    show pm_E _ _ _ 170 [(0, .ref (pl 9)), (1, .int (iI (a 0 (s 11))))] [] _ _ _ _
                    refine pm_e_sim pm_a18_170 rfl ?_
                    show pm_E _ _ _ 171 [(0, .ref (pl 9)), (1, .int (iI (a 0 (s 11))))] [.ref (pl 9)] _ _ _ _
                    refine pm_e_sim pm_a18_171 rfl ?_
                    show pm_E _ _ _ 172 [(0, .ref (pl 9)), (1, .int (iI (a 0 (s 11))))] [.ref (pl 9), .ref (pl 9)] _ _ _ _
                    refine pm_i_get pm_a18_172 rfl (cg_9 hW) rfl ?_
                    show pm_E _ _ _ 175 [(0, .ref (pl 9)), (1, .int (iI (a 0 (s 11))))] [.int (iI (s 11)), .ref (pl 9)] _ _ _ _
                    refine pm_e_sim pm_a18_175 rfl ?_
                    refine pm_e_top (y := iI 1) (by decide +kernel) ?_
                    show pm_E _ _ _ 176 [(0, .ref (pl 9)), (1, .int (iI (a 0 (s 11))))] [.int (iI 1), .int (iI (s 11)), .ref (pl 9)] _ _ _ _
                    refine pm_e_sim pm_a18_176 rfl ?_
                    refine pm_e_top (y := iI (s 11 + 1)) (iI_add _ _) ?_
                    show pm_E _ _ _ 177 [(0, .ref (pl 9)), (1, .int (iI (a 0 (s 11))))] [.int (iI (s 11 + 1)), .ref (pl 9)] _ _ _ _
                    refine pm_i_put pm_a18_177 rfl (cg_9 hW) rfl (Nat.le_of_ble_eq_true rfl) (Or.inl rfl) (cw_11 hW (s 11 + 1)) ?_
                    show pm_E _ _ _ 180 [(0, .ref (pl 9)), (1, .int (iI (a 0 (s 11))))] [] _ _ _ _
                    refine pm_e_goto pm_a18_180 rfl ?_
                    show pm_E _ _ _ 188 [(0, .ref (pl 9)), (1, .int (iI (a 0 (s 11))))] [] _ _ _ _
                    refine pm_e_ret pm_a18_188 rfl rfl rfl rfl rfl rfl rfl rfl ?_
                    exact k _ (fun i n9 n10 n11 n12 n13 => by simp only [updS]; rw [if_neg n11, if_neg n9, if_neg n10]) (tkC_k (tok_4 hP (by omega) (by omega) (by omega) (x_3 (by omega)) (by omega)) (by decide) h12 rfl rfl rfl rfl)
          · skip
            show pm_E _ _ _ 123 [(0, .ref (pl 9)), (1, .int (iI (a 0 (s 11))))] [] _ _ _ _
            refine pm_e_sim pm_a18_123 rfl ?_
            show pm_E _ _ _ 124 [(0, .ref (pl 9)), (1, .int (iI (a 0 (s 11))))] [.ref (pl 9)] _ _ _ _
            refine pm_e_sim pm_a18_124 rfl ?_
            refine pm_e_top (y := iI 3) (by decide +kernel) ?_
            show pm_E _ _ _ 125 [(0, .ref (pl 9)), (1, .int (iI (a 0 (s 11))))] [.int (iI 3), .ref (pl 9)] _ _ _ _
            refine pm_i_put pm_a18_125 rfl (cg_9 hW) rfl (Nat.le_of_ble_eq_true rfl) (Or.inl rfl) (cw_9 hW 3) ?_
            show pm_E _ _ _ 128 [(0, .ref (pl 9)), (1, .int (iI (a 0 (s 11))))] [] _ _ _ _
            refine pm_e_sim pm_a18_128 rfl ?_
            show pm_E _ _ _ 129 [(0, .ref (pl 9)), (1, .int (iI (a 0 (s 11))))] [.ref (pl 9)] _ _ _ _
            refine pm_e_sim pm_a18_129 rfl ?_
            show pm_E _ _ _ 130 [(0, .ref (pl 9)), (1, .int (iI (a 0 (s 11))))] [.ref (pl 9), .ref (pl 9)] _ _ _ _
            refine pm_i_get pm_a18_130 rfl (cg_9 hW) rfl ?_
            show pm_E _ _ _ 133 [(0, .ref (pl 9)), (1, .int (iI (a 0 (s 11))))] [.int (iI (s 11)), .ref (pl 9)] _ _ _ _
            refine pm_e_sim pm_a18_133 rfl ?_
            refine pm_e_top (y := iI 1) (by decide +kernel) ?_
            show pm_E _ _ _ 134 [(0, .ref (pl 9)), (1, .int (iI (a 0 (s 11))))] [.int (iI 1), .int (iI (s 11)), .ref (pl 9)] _ _ _ _
            refine pm_e_sim pm_a18_134 rfl ?_
            refine pm_e_top (y := iI (s 11 + 1)) (iI_add _ _) ?_
            show pm_E _ _ _ 135 [(0, .ref (pl 9)), (1, .int (iI (a 0 (s 11))))] [.int (iI (s 11 + 1)), .ref (pl 9)] _ _ _ _
            refine pm_i_put pm_a18_135 rfl (cg_9 hW) rfl (Nat.le_of_ble_eq_true rfl) (Or.inl rfl) (cw_11 hW (s 11 + 1)) ?_
            show pm_E _ _ _ 138 [(0, .ref (pl 9)), (1, .int (iI (a 0 (s 11))))] [] _ _ _ _
            refine pm_e_goto pm_a18_138 rfl ?_
            show pm_E _ _ _ 188 [(0, .ref (pl 9)), (1, .int (iI (a 0 (s 11))))] [] _ _ _ _
            refine pm_e_ret pm_a18_188 rfl rfl rfl rfl rfl rfl rfl rfl ?_
            exact k _ (fun i n9 n10 n11 n12 n13 => by simp only [updS]; rw [if_neg n11, if_neg n9, if_neg n10]) (tkC_k (tok_3 hP (by omega) (by omega) (by omega) (x_4 (by omega)).1) (by decide) h12 rfl rfl rfl rfl)
    · skip
      exfalso; omega
  · skip
    replace u_1 : s 11 < 0 ∨ s 4 ≤ s 11 := u_1
    show pm_E _ _ _ 62 [(0, .ref (pl 9))] [.int (iI (-1))] _ _ _ _
    refine pm_e_sim pm_a18_62 rfl ?_
    show pm_E _ _ _ 63 [(0, .ref (pl 9)), (1, .int (iI (-1)))] [] _ _ _ _
    refine pm_e_sim pm_a18_63 rfl ?_
    show pm_E _ _ _ 64 [(0, .ref (pl 9)), (1, .int (iI (-1)))] [.ref (pl 9)] _ _ _ _
    refine pm_i_get pm_a18_64 rfl (cg_9 hW) rfl ?_
    show pm_E _ _ _ 67 [(0, .ref (pl 9)), (1, .int (iI (-1)))] [.int (iI (s 11))] _ _ _ _
    refine pm_e_sim pm_a18_67 rfl ?_
    show pm_E _ _ _ 68 [(0, .ref (pl 9)), (1, .int (iI (-1)))] [.ref (pl 9), .int (iI (s 11))] _ _ _ _
    refine pm_i_get pm_a18_68 rfl (cg_9 hW) rfl ?_
    show pm_E _ _ _ 71 [(0, .ref (pl 9)), (1, .int (iI (-1)))] [.ref (pl 1), .int (iI (s 11))] _ _ _ _
    refine pm_i_get pm_a18_71 rfl (cg_1 hW) rfl ?_
    show pm_E _ _ _ 74 [(0, .ref (pl 9)), (1, .int (iI (-1)))] [.int (iI (s 4)), .int (iI (s 11))] _ _ _ _
    refine pm_c_lt (t := 85) pm_a18_74 rfl ⟨by omega, by omega⟩ ⟨by omega, by omega⟩ (fun h_10 => ?_) (fun h_10 => ?_)
    · skip
      exfalso; omega
    · skip
      show pm_E _ _ _ 77 [(0, .ref (pl 9)), (1, .int (iI (-1)))] [] _ _ _ _
      refine pm_e_sim pm_a18_77 rfl ?_
      show pm_E _ _ _ 78 [(0, .ref (pl 9)), (1, .int (iI (-1)))] [.ref (pl 9)] _ _ _ _
      refine pm_e_sim pm_a18_78 rfl ?_
      refine pm_e_top (y := iI 0) (by decide +kernel) ?_
      show pm_E _ _ _ 79 [(0, .ref (pl 9)), (1, .int (iI (-1)))] [.int (iI 0), .ref (pl 9)] _ _ _ _
      refine pm_i_put pm_a18_79 rfl (cg_9 hW) rfl (Nat.le_of_ble_eq_true rfl) (Or.inl rfl) (cw_9 hW 0) ?_
      show pm_E _ _ _ 82 [(0, .ref (pl 9)), (1, .int (iI (-1)))] [] _ _ _ _
      refine pm_e_goto pm_a18_82 rfl ?_
      show pm_E _ _ _ 188 [(0, .ref (pl 9)), (1, .int (iI (-1)))] [] _ _ _ _
      refine pm_e_ret pm_a18_188 rfl rfl rfl rfl rfl rfl rfl rfl ?_
      exact k _ (fun i n9 n10 n11 n12 n13 => by simp only [updS]; rw [if_neg n9, if_neg n10]) (tkC_k (tok_0 hP (by omega)) (by decide) h12 rfl rfl rfl rfl)
set_option maxHeartbeats 4000000 in
set_option maxRecDepth 100000 in
theorem C_r_findToken {d n : Nat} {kd pl : Nat → Nat} {s : Nat → Int} {a : Nat → Int → Int} {c : Nat → cdt} {M : List va_E} {Q : Option Value → List va_E → Nat → Nat → Prop} (hW : wf n kd pl) (h4 : 0 ≤ s 4) (h4' : s 4 ≤ 600) (hb : ∀ j, 0 ≤ a 0 j ∧ a 0 j ≤ 255) (h0 : 0 ≤ s 11) (h1 : s 11 ≤ s 4) (h12 : s 12 = 0) (k : ∀ s', (∀ i, i ≠ 9 → i ≠ 10 → i ≠ 11 → i ≠ 12 → i ≠ 13 → s' i = s i) → tkC (a 0) (s 4) (s 11) (s 13) s' → Q none (ch n kd pl s' a c M) 0 0) : pm_E none (d + 4) pm_mm18 0 [(0, .ref (pl 9))] [] (ch n kd pl s a c M) 0 0 Q := by
  refine C_r_skip_l (N := s 4) hW hb h4' 601 s h0 h1 rfl (fun s1 e1 g1 => ?_) (by show s 4 - s 11 < ((601 : Nat) : Int); omega)
  have e2 : s1 11 = skp (a 0) (s 4) 600 (s 11) := e1.trans (by show skp (a 0) (s 4) (600 + 1) (s 11) = _; rw [skp_fu 600 _ (by omega) (by omega)])
  have a4 : s1 4 = s 4 := g1 4 (by decide)
  have r3 := skp_le (g := a 0) (n := s 4) 600 (s 11) h1
  refine C_r_tok_t (i0 := s 11) hW (by omega) (by omega) hb (by omega) (by omega) ((g1 12 (by decide)).trans h12) (by rw [a4]; exact e2.symm) (fun s' g t => ?_)
  rw [a4, g1 13 (by decide)] at t
  exact k s' (fun i n9 n10 n11 n12 n13 => (g i n9 n10 n11 n12 n13).trans (g1 i n11)) t
set_option maxHeartbeats 4000000 in
set_option maxRecDepth 100000 in
theorem C_r_nameAt_l {d n : Nat} {kd pl : Nat → Nat} {s : Nat → Int} {a : Nat → Int → Int} {c : Nat → cdt} {M : List va_E} {Q : Option Value → List va_E → Nat → Nat → Prop} {p w : Int} (hW : wf n kd pl) (h4 : 0 ≤ s 4) (h4' : s 4 ≤ 600) (hb : ∀ j, 0 ≤ a 0 j ∧ a 0 j ≤ 255) (hp : 0 ≤ p) (hp' : p < s 4) (h0 : 0 ≤ s 10) (h1 : s 10 ≤ s 11) (h2 : s 11 ≤ s 4) (hw : s 11 - s 10 = w) (k1 : ((∀ j, 0 ≤ j → j < s 11 - s 10 → p + j < s 4 ∧ a 0 (p + j) = a 0 (s 10 + j)) ∧ ¬ (p + (s 11 - s 10) < s 4 ∧ 97 ≤ a 0 (p + (s 11 - s 10)) ∧ a 0 (p + (s 11 - s 10)) ≤ 122)) → Q (some (.int (iI 1))) (ch n kd pl s a c M) 0 0) (k0 : ¬ ((∀ j, 0 ≤ j → j < s 11 - s 10 → p + j < s 4 ∧ a 0 (p + j) = a 0 (s 10 + j)) ∧ ¬ (p + (s 11 - s 10) < s 4 ∧ 97 ≤ a 0 (p + (s 11 - s 10)) ∧ a 0 (p + (s 11 - s 10)) ≤ 122)) → Q (some (.int (iI 0))) (ch n kd pl s a c M) 0 0) : ∀ (f : Nat) (i : Int), 0 ≤ i → i ≤ w → (∀ j, 0 ≤ j → j < i → p + j < s 4 ∧ a 0 (p + j) = a 0 (s 10 + j)) → w - i < (f : Int) → pm_E none (d + 1) pm_mm30 12 [(0, .ref (pl 9)), (1, .int (iI p)), (2, .int (iI w)), (3, .int (iI i))] [] (ch n kd pl s a c M) 0 0 Q := by
  intro f
  induction f with
  | zero =>
    intro i hi0 hi1 hn hf
    exfalso; omega
  | succ f ih =>
    intro i hi0 hi1 hn hf
    refine pm_e_sim pm_a30_12 rfl ?_
    show pm_E _ _ _ 13 [(0, .ref (pl 9)), (1, .int (iI p)), (2, .int (iI w)), (3, .int (iI i))] [.int (iI i)] _ _ _ _
    refine pm_e_sim pm_a30_13 rfl ?_
    show pm_E _ _ _ 14 [(0, .ref (pl 9)), (1, .int (iI p)), (2, .int (iI w)), (3, .int (iI i))] [.int (iI w), .int (iI i)] _ _ _ _
    refine pm_c_ge (t := 51) pm_a30_14 rfl ⟨by omega, by omega⟩ ⟨by omega, by omega⟩ (fun h_1 => ?_) (fun h_1 => ?_)
    · skip
      show pm_E _ _ _ 51 [(0, .ref (pl 9)), (1, .int (iI p)), (2, .int (iI w)), (3, .int (iI i))] [] _ _ _ _
      refine pm_e_sim pm_a30_51 rfl ?_
      show pm_E _ _ _ 52 [(0, .ref (pl 9)), (1, .int (iI p)), (2, .int (iI w)), (3, .int (iI i))] [.ref (pl 9)] _ _ _ _
      refine pm_i_get pm_a30_52 rfl (cg_9 hW) rfl ?_
      show pm_E _ _ _ 55 [(0, .ref (pl 9)), (1, .int (iI p)), (2, .int (iI w)), (3, .int (iI i))] [.ref (pl 1)] _ _ _ _
      refine pm_e_sim pm_a30_55 rfl ?_
      show pm_E _ _ _ 56 [(0, .ref (pl 9)), (1, .int (iI p)), (2, .int (iI w)), (3, .int (iI i))] [.int (iI p), .ref (pl 1)] _ _ _ _
      refine pm_e_sim pm_a30_56 rfl ?_
      show pm_E _ _ _ 57 [(0, .ref (pl 9)), (1, .int (iI p)), (2, .int (iI w)), (3, .int (iI i))] [.int (iI w), .int (iI p), .ref (pl 1)] _ _ _ _
      refine pm_e_sim pm_a30_57 rfl ?_
      refine pm_e_top (y := iI (p + w)) (iI_add _ _) ?_
      show pm_E _ _ _ 58 [(0, .ref (pl 9)), (1, .int (iI p)), (2, .int (iI w)), (3, .int (iI i))] [.int (iI (p + w)), .ref (pl 1)] _ _ _ _
      refine pm_i_callv (k := (pl 1)) (T2 := pm_mm19) pm_a30_58 rfl rfl rfl (cg_1 hW) ⟨Nat.le_of_ble_eq_true rfl, Nat.le_of_ble_eq_true rfl, rfl, by decide +kernel⟩ ?_
      show pm_E none _ _ 0 [(0, .ref (pl 1)), (1, .int (iI (p + w)))] [] _ _ _ _
      refine C_tat hW (by show 0 ≤ s 4; omega) (by show s 4 ≤ 600; omega) ⟨by omega, by omega⟩ (fun u_2 v_2 => ?_) (fun u_2 => ?_)
      · skip
        replace v_2 : p + w < s 4 := v_2
        obtain ⟨_, _⟩ := hb (p + w)
        show pm_E _ _ _ 61 [(0, .ref (pl 9)), (1, .int (iI p)), (2, .int (iI w)), (3, .int (iI i))] [.int (iI (a 0 (p + w)))] _ _ _ _
        refine pm_e_call (T2 := pm_mm20) pm_a30_61 rfl rfl rfl rfl rfl rfl rfl rfl rfl ?_
        show pm_E none _ _ 0 [(0, .int (iI (a 0 (p + w))))] [] _ _ _ _
        refine C_isSmall ⟨by omega, by omega⟩ (fun t_3 o_3 => ?_) (fun t_3 => ?_)
        · skip
          show pm_E _ _ _ 64 [(0, .ref (pl 9)), (1, .int (iI p)), (2, .int (iI w)), (3, .int (iI i))] [.int (iI 1)] _ _ _ _
          refine pm_e_ift pm_a30_64 rfl (by decide +kernel) ?_
          show pm_E _ _ _ 71 [(0, .ref (pl 9)), (1, .int (iI p)), (2, .int (iI w)), (3, .int (iI i))] [] _ _ _ _
          refine pm_e_sim pm_a30_71 rfl ?_
          refine pm_e_top (y := iI 0) (by decide +kernel) ?_
          show pm_E _ _ _ 72 [(0, .ref (pl 9)), (1, .int (iI p)), (2, .int (iI w)), (3, .int (iI i))] [.int (iI 0)] _ _ _ _
          refine pm_e_ret pm_a30_72 rfl rfl rfl rfl rfl rfl rfl rfl ?_
          subst hw
          exact k0 (fun q9 => by have q8 := q9.2; omega)
        · skip
          show pm_E _ _ _ 64 [(0, .ref (pl 9)), (1, .int (iI p)), (2, .int (iI w)), (3, .int (iI i))] [.int (iI 0)] _ _ _ _
          refine pm_e_iff pm_a30_64 rfl (by decide +kernel) ?_
          show pm_E _ _ _ 67 [(0, .ref (pl 9)), (1, .int (iI p)), (2, .int (iI w)), (3, .int (iI i))] [] _ _ _ _
          refine pm_e_sim pm_a30_67 rfl ?_
          refine pm_e_top (y := iI 1) (by decide +kernel) ?_
          show pm_E _ _ _ 68 [(0, .ref (pl 9)), (1, .int (iI p)), (2, .int (iI w)), (3, .int (iI i))] [.int (iI 1)] _ _ _ _
          refine pm_e_goto pm_a30_68 rfl ?_
          show pm_E _ _ _ 72 [(0, .ref (pl 9)), (1, .int (iI p)), (2, .int (iI w)), (3, .int (iI i))] [.int (iI 1)] _ _ _ _
          refine pm_e_ret pm_a30_72 rfl rfl rfl rfl rfl rfl rfl rfl ?_
          subst hw
          exact k1 ⟨fun j z y => hn j z (by omega), by omega⟩
      · skip
        replace u_2 : p + w < 0 ∨ s 4 ≤ p + w := u_2
        show pm_E _ _ _ 61 [(0, .ref (pl 9)), (1, .int (iI p)), (2, .int (iI w)), (3, .int (iI i))] [.int (iI (-1))] _ _ _ _
        refine pm_e_call (T2 := pm_mm20) pm_a30_61 rfl rfl rfl rfl rfl rfl rfl rfl rfl ?_
        show pm_E none _ _ 0 [(0, .int (iI (-1)))] [] _ _ _ _
        refine C_isSmall (by decide) (fun z9 _ => by exfalso; omega) (fun _ => ?_)
        show pm_E _ _ _ 64 [(0, .ref (pl 9)), (1, .int (iI p)), (2, .int (iI w)), (3, .int (iI i))] [.int (iI 0)] _ _ _ _
        refine pm_e_iff pm_a30_64 rfl (by decide +kernel) ?_
        show pm_E _ _ _ 67 [(0, .ref (pl 9)), (1, .int (iI p)), (2, .int (iI w)), (3, .int (iI i))] [] _ _ _ _
        refine pm_e_sim pm_a30_67 rfl ?_
        refine pm_e_top (y := iI 1) (by decide +kernel) ?_
        show pm_E _ _ _ 68 [(0, .ref (pl 9)), (1, .int (iI p)), (2, .int (iI w)), (3, .int (iI i))] [.int (iI 1)] _ _ _ _
        refine pm_e_goto pm_a30_68 rfl ?_
        show pm_E _ _ _ 72 [(0, .ref (pl 9)), (1, .int (iI p)), (2, .int (iI w)), (3, .int (iI i))] [.int (iI 1)] _ _ _ _
        refine pm_e_ret pm_a30_72 rfl rfl rfl rfl rfl rfl rfl rfl ?_
        subst hw
        exact k1 ⟨fun j z y => hn j z (by omega), by omega⟩
    · skip
      show pm_E _ _ _ 17 [(0, .ref (pl 9)), (1, .int (iI p)), (2, .int (iI w)), (3, .int (iI i))] [] _ _ _ _
      refine pm_e_sim pm_a30_17 rfl ?_
      show pm_E _ _ _ 18 [(0, .ref (pl 9)), (1, .int (iI p)), (2, .int (iI w)), (3, .int (iI i))] [.ref (pl 9)] _ _ _ _
      refine pm_i_get pm_a30_18 rfl (cg_9 hW) rfl ?_
      show pm_E _ _ _ 21 [(0, .ref (pl 9)), (1, .int (iI p)), (2, .int (iI w)), (3, .int (iI i))] [.ref (pl 1)] _ _ _ _
      refine pm_e_sim pm_a30_21 rfl ?_
      show pm_E _ _ _ 22 [(0, .ref (pl 9)), (1, .int (iI p)), (2, .int (iI w)), (3, .int (iI i))] [.int (iI p), .ref (pl 1)] _ _ _ _
      refine pm_e_sim pm_a30_22 rfl ?_
      show pm_E _ _ _ 23 [(0, .ref (pl 9)), (1, .int (iI p)), (2, .int (iI w)), (3, .int (iI i))] [.int (iI i), .int (iI p), .ref (pl 1)] _ _ _ _
      refine pm_e_sim pm_a30_23 rfl ?_
      refine pm_e_top (y := iI (p + i)) (iI_add _ _) ?_
      show pm_E _ _ _ 24 [(0, .ref (pl 9)), (1, .int (iI p)), (2, .int (iI w)), (3, .int (iI i))] [.int (iI (p + i)), .ref (pl 1)] _ _ _ _
      refine pm_i_callv (k := (pl 1)) (T2 := pm_mm19) pm_a30_24 rfl rfl rfl (cg_1 hW) ⟨Nat.le_of_ble_eq_true rfl, Nat.le_of_ble_eq_true rfl, rfl, by decide +kernel⟩ ?_
      show pm_E none _ _ 0 [(0, .ref (pl 1)), (1, .int (iI (p + i)))] [] _ _ _ _
      refine C_tat hW (by show 0 ≤ s 4; omega) (by show s 4 ≤ 600; omega) ⟨by omega, by omega⟩ (fun u_4 v_4 => ?_) (fun u_4 => ?_)
      · skip
        replace v_4 : p + i < s 4 := v_4
        obtain ⟨_, _⟩ := hb (p + i)
        show pm_E _ _ _ 27 [(0, .ref (pl 9)), (1, .int (iI p)), (2, .int (iI w)), (3, .int (iI i))] [.int (iI (a 0 (p + i)))] _ _ _ _
        refine pm_e_sim pm_a30_27 rfl ?_
        show pm_E _ _ _ 28 [(0, .ref (pl 9)), (1, .int (iI p)), (2, .int (iI w)), (3, .int (iI i))] [.ref (pl 9), .int (iI (a 0 (p + i)))] _ _ _ _
        refine pm_i_get pm_a30_28 rfl (cg_9 hW) rfl ?_
        show pm_E _ _ _ 31 [(0, .ref (pl 9)), (1, .int (iI p)), (2, .int (iI w)), (3, .int (iI i))] [.ref (pl 1), .int (iI (a 0 (p + i)))] _ _ _ _
        refine pm_e_sim pm_a30_31 rfl ?_
        show pm_E _ _ _ 32 [(0, .ref (pl 9)), (1, .int (iI p)), (2, .int (iI w)), (3, .int (iI i))] [.ref (pl 9), .ref (pl 1), .int (iI (a 0 (p + i)))] _ _ _ _
        refine pm_i_get pm_a30_32 rfl (cg_9 hW) rfl ?_
        show pm_E _ _ _ 35 [(0, .ref (pl 9)), (1, .int (iI p)), (2, .int (iI w)), (3, .int (iI i))] [.int (iI (s 10)), .ref (pl 1), .int (iI (a 0 (p + i)))] _ _ _ _
        refine pm_e_sim pm_a30_35 rfl ?_
        show pm_E _ _ _ 36 [(0, .ref (pl 9)), (1, .int (iI p)), (2, .int (iI w)), (3, .int (iI i))] [.int (iI i), .int (iI (s 10)), .ref (pl 1), .int (iI (a 0 (p + i)))] _ _ _ _
        refine pm_e_sim pm_a30_36 rfl ?_
        refine pm_e_top (y := iI (s 10 + i)) (iI_add _ _) ?_
        show pm_E _ _ _ 37 [(0, .ref (pl 9)), (1, .int (iI p)), (2, .int (iI w)), (3, .int (iI i))] [.int (iI (s 10 + i)), .ref (pl 1), .int (iI (a 0 (p + i)))] _ _ _ _
        refine pm_i_callv (k := (pl 1)) (T2 := pm_mm19) pm_a30_37 rfl rfl rfl (cg_1 hW) ⟨Nat.le_of_ble_eq_true rfl, Nat.le_of_ble_eq_true rfl, rfl, by decide +kernel⟩ ?_
        show pm_E none _ _ 0 [(0, .ref (pl 1)), (1, .int (iI (s 10 + i)))] [] _ _ _ _
        refine C_tat hW (by show 0 ≤ s 4; omega) (by show s 4 ≤ 600; omega) ⟨by omega, by omega⟩ (fun _ _ => ?_) (fun z9 => by exfalso; have z8 : s 10 + i < 0 ∨ s 4 ≤ s 10 + i := z9; omega)
        obtain ⟨_, _⟩ := hb (s 10 + i)
        show pm_E _ _ _ 40 [(0, .ref (pl 9)), (1, .int (iI p)), (2, .int (iI w)), (3, .int (iI i))] [.int (iI (a 0 (s 10 + i))), .int (iI (a 0 (p + i)))] _ _ _ _
        refine pm_c_eq (t := 45) pm_a30_40 rfl ⟨by omega, by omega⟩ ⟨by omega, by omega⟩ (fun h_5 => ?_) (fun h_5 => ?_)
        · skip
          show pm_E _ _ _ 45 [(0, .ref (pl 9)), (1, .int (iI p)), (2, .int (iI w)), (3, .int (iI i))] [] _ _ _ _
          refine pm_e_inc (y := iI (i + 1)) pm_a30_45 rfl (iI_add _ _) (by decide +kernel) rfl ?_
          show pm_E _ _ _ 48 [(0, .ref (pl 9)), (1, .int (iI p)), (2, .int (iI w)), (3, .int (iI (i + 1)))] [] _ _ _ _
          refine pm_e_goto pm_a30_48 rfl ?_
          show pm_E _ _ _ 12 [(0, .ref (pl 9)), (1, .int (iI p)), (2, .int (iI w)), (3, .int (iI (i + 1)))] [] _ _ _ _
          refine ih (i + 1) (by omega) (by omega) (fun j z y => ?_) (by omega)
          by_cases e : j = i
          · rw [e]; exact ⟨by omega, by omega⟩
          · exact hn j z (by omega)
        · skip
          show pm_E _ _ _ 43 [(0, .ref (pl 9)), (1, .int (iI p)), (2, .int (iI w)), (3, .int (iI i))] [] _ _ _ _
          refine pm_e_sim pm_a30_43 rfl ?_
          refine pm_e_top (y := iI 0) (by decide +kernel) ?_
          show pm_E _ _ _ 44 [(0, .ref (pl 9)), (1, .int (iI p)), (2, .int (iI w)), (3, .int (iI i))] [.int (iI 0)] _ _ _ _
          refine pm_e_ret pm_a30_44 rfl rfl rfl rfl rfl rfl rfl rfl ?_
          exact k0 (fun q9 => by have q8 := q9.1 i (by omega) (by omega); omega)
      · skip
        replace u_4 : p + i < 0 ∨ s 4 ≤ p + i := u_4
        show pm_E _ _ _ 27 [(0, .ref (pl 9)), (1, .int (iI p)), (2, .int (iI w)), (3, .int (iI i))] [.int (iI (-1))] _ _ _ _
        refine pm_e_sim pm_a30_27 rfl ?_
        show pm_E _ _ _ 28 [(0, .ref (pl 9)), (1, .int (iI p)), (2, .int (iI w)), (3, .int (iI i))] [.ref (pl 9), .int (iI (-1))] _ _ _ _
        refine pm_i_get pm_a30_28 rfl (cg_9 hW) rfl ?_
        show pm_E _ _ _ 31 [(0, .ref (pl 9)), (1, .int (iI p)), (2, .int (iI w)), (3, .int (iI i))] [.ref (pl 1), .int (iI (-1))] _ _ _ _
        refine pm_e_sim pm_a30_31 rfl ?_
        show pm_E _ _ _ 32 [(0, .ref (pl 9)), (1, .int (iI p)), (2, .int (iI w)), (3, .int (iI i))] [.ref (pl 9), .ref (pl 1), .int (iI (-1))] _ _ _ _
        refine pm_i_get pm_a30_32 rfl (cg_9 hW) rfl ?_
        show pm_E _ _ _ 35 [(0, .ref (pl 9)), (1, .int (iI p)), (2, .int (iI w)), (3, .int (iI i))] [.int (iI (s 10)), .ref (pl 1), .int (iI (-1))] _ _ _ _
        refine pm_e_sim pm_a30_35 rfl ?_
        show pm_E _ _ _ 36 [(0, .ref (pl 9)), (1, .int (iI p)), (2, .int (iI w)), (3, .int (iI i))] [.int (iI i), .int (iI (s 10)), .ref (pl 1), .int (iI (-1))] _ _ _ _
        refine pm_e_sim pm_a30_36 rfl ?_
        refine pm_e_top (y := iI (s 10 + i)) (iI_add _ _) ?_
        show pm_E _ _ _ 37 [(0, .ref (pl 9)), (1, .int (iI p)), (2, .int (iI w)), (3, .int (iI i))] [.int (iI (s 10 + i)), .ref (pl 1), .int (iI (-1))] _ _ _ _
        refine pm_i_callv (k := (pl 1)) (T2 := pm_mm19) pm_a30_37 rfl rfl rfl (cg_1 hW) ⟨Nat.le_of_ble_eq_true rfl, Nat.le_of_ble_eq_true rfl, rfl, by decide +kernel⟩ ?_
        show pm_E none _ _ 0 [(0, .ref (pl 1)), (1, .int (iI (s 10 + i)))] [] _ _ _ _
        refine C_tat hW (by show 0 ≤ s 4; omega) (by show s 4 ≤ 600; omega) ⟨by omega, by omega⟩ (fun _ _ => ?_) (fun z9 => by exfalso; have z8 : s 10 + i < 0 ∨ s 4 ≤ s 10 + i := z9; omega)
        obtain ⟨_, _⟩ := hb (s 10 + i)
        show pm_E _ _ _ 40 [(0, .ref (pl 9)), (1, .int (iI p)), (2, .int (iI w)), (3, .int (iI i))] [.int (iI (a 0 (s 10 + i))), .int (iI (-1))] _ _ _ _
        refine pm_c_eq (t := 45) pm_a30_40 rfl ⟨by omega, by omega⟩ ⟨by omega, by omega⟩ (fun h_6 => ?_) (fun h_6 => ?_)
        · skip
          show pm_E _ _ _ 45 [(0, .ref (pl 9)), (1, .int (iI p)), (2, .int (iI w)), (3, .int (iI i))] [] _ _ _ _
          refine pm_e_inc (y := iI (i + 1)) pm_a30_45 rfl (iI_add _ _) (by decide +kernel) rfl ?_
          show pm_E _ _ _ 48 [(0, .ref (pl 9)), (1, .int (iI p)), (2, .int (iI w)), (3, .int (iI (i + 1)))] [] _ _ _ _
          refine pm_e_goto pm_a30_48 rfl ?_
          show pm_E _ _ _ 12 [(0, .ref (pl 9)), (1, .int (iI p)), (2, .int (iI w)), (3, .int (iI (i + 1)))] [] _ _ _ _
          refine ih (i + 1) (by omega) (by omega) (fun j z y => ?_) (by omega)
          by_cases e : j = i
          · rw [e]; exact ⟨by omega, by omega⟩
          · exact hn j z (by omega)
        · skip
          show pm_E _ _ _ 43 [(0, .ref (pl 9)), (1, .int (iI p)), (2, .int (iI w)), (3, .int (iI i))] [] _ _ _ _
          refine pm_e_sim pm_a30_43 rfl ?_
          refine pm_e_top (y := iI 0) (by decide +kernel) ?_
          show pm_E _ _ _ 44 [(0, .ref (pl 9)), (1, .int (iI p)), (2, .int (iI w)), (3, .int (iI i))] [.int (iI 0)] _ _ _ _
          refine pm_e_ret pm_a30_44 rfl rfl rfl rfl rfl rfl rfl rfl ?_
          exact k0 (fun q9 => by have q8 := q9.1 i (by omega) (by omega); omega)
set_option maxHeartbeats 4000000 in
set_option maxRecDepth 100000 in
theorem C_r_nameAt {d n : Nat} {kd pl : Nat → Nat} {s : Nat → Int} {a : Nat → Int → Int} {c : Nat → cdt} {M : List va_E} {Q : Option Value → List va_E → Nat → Nat → Prop} {p : Int} (hW : wf n kd pl) (h4 : 0 ≤ s 4) (h4' : s 4 ≤ 600) (hb : ∀ j, 0 ≤ a 0 j ∧ a 0 j ≤ 255) (hp : 0 ≤ p) (hp' : p < s 4) (h0 : 0 ≤ s 10) (h1 : s 10 ≤ s 11) (h2 : s 11 ≤ s 4) (k1 : ((∀ j, 0 ≤ j → j < s 11 - s 10 → p + j < s 4 ∧ a 0 (p + j) = a 0 (s 10 + j)) ∧ ¬ (p + (s 11 - s 10) < s 4 ∧ 97 ≤ a 0 (p + (s 11 - s 10)) ∧ a 0 (p + (s 11 - s 10)) ≤ 122)) → Q (some (.int (iI 1))) (ch n kd pl s a c M) 0 0) (k0 : ¬ ((∀ j, 0 ≤ j → j < s 11 - s 10 → p + j < s 4 ∧ a 0 (p + j) = a 0 (s 10 + j)) ∧ ¬ (p + (s 11 - s 10) < s 4 ∧ 97 ≤ a 0 (p + (s 11 - s 10)) ∧ a 0 (p + (s 11 - s 10)) ≤ 122)) → Q (some (.int (iI 0))) (ch n kd pl s a c M) 0 0) : pm_E none (d + 1) pm_mm30 0 [(0, .ref (pl 9)), (1, .int (iI p))] [] (ch n kd pl s a c M) 0 0 Q := by
  refine pm_e_sim pm_a30_0 rfl ?_
  show pm_E _ _ _ 1 [(0, .ref (pl 9)), (1, .int (iI p))] [.ref (pl 9)] _ _ _ _
  refine pm_i_get pm_a30_1 rfl (cg_9 hW) rfl ?_
  show pm_E _ _ _ 4 [(0, .ref (pl 9)), (1, .int (iI p))] [.int (iI (s 11))] _ _ _ _
  refine pm_e_sim pm_a30_4 rfl ?_
  show pm_E _ _ _ 5 [(0, .ref (pl 9)), (1, .int (iI p))] [.ref (pl 9), .int (iI (s 11))] _ _ _ _
  refine pm_i_get pm_a30_5 rfl (cg_9 hW) rfl ?_
  show pm_E _ _ _ 8 [(0, .ref (pl 9)), (1, .int (iI p))] [.int (iI (s 10)), .int (iI (s 11))] _ _ _ _
  refine pm_e_sim pm_a30_8 rfl ?_
  refine pm_e_top (y := iI (s 11 - (s 10))) (iI_sub _ _) ?_
  show pm_E _ _ _ 9 [(0, .ref (pl 9)), (1, .int (iI p))] [.int (iI (s 11 - (s 10)))] _ _ _ _
  refine pm_e_sim pm_a30_9 rfl ?_
  show pm_E _ _ _ 10 [(0, .ref (pl 9)), (1, .int (iI p)), (2, .int (iI (s 11 - (s 10))))] [] _ _ _ _
  refine pm_e_sim pm_a30_10 rfl ?_
  refine pm_e_top (y := iI 0) (by decide +kernel) ?_
  show pm_E _ _ _ 11 [(0, .ref (pl 9)), (1, .int (iI p)), (2, .int (iI (s 11 - (s 10))))] [.int (iI 0)] _ _ _ _
  refine pm_e_sim pm_a30_11 rfl ?_
  show pm_E _ _ _ 12 [(0, .ref (pl 9)), (1, .int (iI p)), (2, .int (iI (s 11 - (s 10)))), (3, .int (iI 0))] [] _ _ _ _
  exact C_r_nameAt_l hW h4 h4' hb hp hp' h0 h1 h2 rfl k1 k0 601 0 (by omega) (by omega) (fun j z y => by exfalso; omega) (by omega)
