/-! THE REFERENCE: closes -/
theorem nmR_drop {nm : Nat → Int64} : ∀ {ns : List Int} (j : Nat), nmR nm ns → nmR nm (ns.drop j)
  | ns, 0, h => h
  | [], j + 1, h => trivial
  | x :: r, j + 1, h => nmR_drop j h.2
theorem flat_pop {x y : Lev} {r : List Lev} (h : 1 ≤ x.2.1) : flat ((y.1, y.2.1, y.2.2 ++ ([-x.2.1] ++ x.2.2)) :: r) = flat (x :: y :: r) := by
  show flat r ++ (List.replicate (y.2.1 - 1).toNat 0 ++ exs (y.2.2 ++ ([-x.2.1] ++ x.2.2))) = flat r ++ (List.replicate (y.2.1 - 1).toNat 0 ++ exs y.2.2) ++ (List.replicate (x.2.1 - 1).toNat 0 ++ exs x.2.2)
  have e1 : ex1 (-x.2.1) = List.replicate (x.2.1 - 1).toNat 0 := by
    unfold ex1
    rw [if_pos (by omega), show - -x.2.1 - 1 = x.2.1 - 1 by omega]
  rw [exs_app, exs_app, exs_one, e1]
  simp only [List.append_assoc]
theorem flat_pPop : ∀ {r : List Lev} {x : Lev} {ns : List Int}, gL (x :: r) ns.length (-1) → 1 ≤ x.2.1 → flat ((pPop x r ns).1 :: (pPop x r ns).2.1) = flat (x :: r)
  | [], x, ns, _, _ => rfl
  | y :: r, x, ns, h, hc => by
    unfold pPop
    split
    · rename_i hx
      have h9 := h
      obtain ⟨h0, h1, h2, h3, h5⟩ := h9
      rcases h5 with ⟨_, h5, _⟩ | ⟨_, h5⟩
      · cases h5
      · have g2 := h5.2.2.1 (by omega)
        have hp := gL_pop h hc (by omega)
        have e : ((ns.drop x.1.toNat).length : Int) = ns.length - x.1 := by have := h5.1; rw [List.length_drop]; omega
        have ih := flat_pPop (x := (y.1, y.2.1, y.2.2 ++ ([-x.2.1] ++ x.2.2))) (ns := ns.drop x.1.toNat) (by rw [e]; exact hp) g2
        rw [ih, flat_pop hc]
    · rfl
/-- a row of lambdas that ends -/
theorem RL_pop {x y : Lev} {r : List Lev} {ns : List Int} {s s' : Nat → Int} {a : Nat → Int → Int} {nm : Nat → Int64} (h : RL (x :: y :: r, ns, 0, 0) s a nm) (hg : gL (x :: y :: r) ns.length (-1)) (hx : 0 < x.1) (h1 : s' 18 = s 18 - 1) (h2 : s' 20 = s 20 - x.1) (h3 : s' 21 = s 21 - x.1) : RL ((y.1, y.2.1, y.2.2 ++ ([-x.2.1] ++ x.2.2)) :: r, ns.drop x.1.toNat, 0, 0) s' a nm := by
  obtain ⟨g1, g2, g3, g4, g5, g6, g7, g8, g9, g10⟩ := h
  replace g1 : s 18 = ((r.length + 1 + 1 : Nat) : Int) := g1
  replace g3 : s 20 = (ns.length : Int) := g3
  have hk : x.1 ≤ ns.length := by
    obtain ⟨_, _, _, _, h5⟩ := hg
    rcases h5 with ⟨_, h5, _⟩ | ⟨_, h5⟩
    · cases h5
    · have := h5.1; omega
  have e : ((ns.drop x.1.toNat).length : Int) = ns.length - x.1 := by rw [List.length_drop]; omega
  have e2 : nP (x :: y :: r) = nP (y :: r) := by show (if x.1 = 0 then 1 else 0) + nP (y :: r) = _; rw [if_neg (by omega)]; omega
  have e3 : sK (x :: y :: r) = x.1 + sK (y :: r) := by show (if 0 < x.1 then x.1 else 0) + sK (y :: r) = _; rw [if_pos hx]
  replace g5 : s 21 = (ns.length : Int) + nP (x :: y :: r) := g5
  replace g8 : sK (x :: y :: r) + 0 = (ns.length : Int) := g8
  refine ⟨?_, g2.2.2.2.2, ?_, nmR_drop _ g4, ?_, by omega, ?_, ?_, Int.le_refl 0, fun v hv => g10 v (List.mem_of_mem_drop hv)⟩
  · show s' 18 = ((r.length + 1 : Nat) : Int); omega
  · show s' 20 = ((ns.drop x.1.toNat).length : Int); omega
  · show s' 21 = ((ns.drop x.1.toNat).length : Int) + nP (y :: r); omega
  · rcases g7 with ⟨_, h5⟩ | ⟨_, h5⟩
    · cases h5
    · exact h5
  · show sK (y :: r) + 0 = ((ns.drop x.1.toNat).length : Int); omega
theorem RL_top {x : Lev} {r : List Lev} {ns : List Int} {hh m : Int} {s : Nat → Int} {a : Nat → Int → Int} {nm : Nat → Int64} (h : RL (x :: r, ns, hh, m) s a nm) : s 18 - 1 = (r.length : Int) ∧ a 9 (s 18 - 1) = x.1 ∧ (a 8 (s 18 - 1) = if x.2.1 = 0 then 0 else 1) ∧ (x.1 = -1 ∨ 0 ≤ x.1) ∧ x.1 ≤ 40 := by
  have hl := RL_len h
  obtain ⟨g1, g2, g3, g4, g5, g6, g7, g8, g9, g10⟩ := h
  replace g1 : s 18 = ((r.length + 1 : Nat) : Int) := g1
  have e : s 18 - 1 = (r.length : Int) := by omega
  replace g3 : s 20 = (ns.length : Int) := g3
  replace g8 : (if 0 < x.1 then x.1 else 0) + sK r + m = (ns.length : Int) := g8
  replace g9 : 0 ≤ m := g9
  refine ⟨e, by rw [e]; exact g2.2.2.1, by rw [e]; exact g2.2.1, g7.elim (fun z => Or.inl z.1) (fun z => Or.inr z.1), ?_⟩
  have hs : 0 ≤ sK r := by
    rcases g7 with ⟨_, h5⟩ | ⟨_, h5⟩
    · rw [h5]; exact Int.le_refl 0
    · exact (wfL_len h5).2.2.2
  split at g8 <;> omega
set_option maxHeartbeats 4000000 in
set_option maxRecDepth 100000 in
theorem M_closes0 {d : Nat} {A B : List va_E} {v : Int} {nm : Nat → Int64} {Q : Option Value → List va_E → Nat → Nat → Prop} {a : Nat → Int → Int} {s : Nat → Int} {x : Lev} {r : List Lev} {ns : List Int} (hA : A.length = 18) (hR : RL (x :: r, ns, 0, 0) s a nm) (h13 : s 13 = 0) (hc : x.2.1 = 0) (k : ∀ s', (∀ j, j ≠ 13 → j ≠ 14 → s' j = s j) → s' 13 ≠ 0 → fl (s' 13) → (s' 13 = 2 ∧ s' 14 = s 10) → Q none (mh A s' (lI v) a nm B) 0 0) : pm_E none (d + 1) pm_mm161 0 [(0, .ref 18)] [] (mh A s (lI v) a nm B) 0 0 Q := by
  have hl := RL_len hR
  obtain ⟨t1, t2, t3, t4, t5⟩ := RL_top hR
  rw [if_pos hc] at t3
  refine pm_e_sim pm_a161_0 rfl ?_
  show pm_E _ _ _ 1 [(0, .ref 18)] [.ref 18] _ _ _ _
  refine pm_i_get pm_a161_1 rfl (mh_get (j := 0) hA rfl) rfl ?_
  show pm_E _ _ _ 4 [(0, .ref 18)] [.int (iI (s 13))] _ _ _ _
  refine pm_i_ne (t := 100) pm_a161_4 rfl ⟨by omega, by omega⟩ (fun h_1 => ?_) (fun h_1 => ?_)
  · skip
    exfalso; omega
  · skip
    show pm_E _ _ _ 7 [(0, .ref 18)] [] _ _ _ _
    refine pm_e_sim pm_a161_7 rfl ?_
    show pm_E _ _ _ 8 [(0, .ref 18)] [.ref 18] _ _ _ _
    refine pm_i_get pm_a161_8 rfl (mh_get (j := 0) hA rfl) rfl ?_
    show pm_E _ _ _ 11 [(0, .ref 18)] [.ref 27] _ _ _ _
    refine pm_e_sim pm_a161_11 rfl ?_
    show pm_E _ _ _ 12 [(0, .ref 18)] [.ref 18, .ref 27] _ _ _ _
    refine pm_i_get pm_a161_12 rfl (mh_get (j := 0) hA rfl) rfl ?_
    show pm_E _ _ _ 15 [(0, .ref 18)] [.int (iI (s 18)), .ref 27] _ _ _ _
    refine pm_e_sim pm_a161_15 rfl ?_
    refine pm_e_top (y := iI 1) (by decide +kernel) ?_
    show pm_E _ _ _ 16 [(0, .ref 18)] [.int (iI 1), .int (iI (s 18)), .ref 27] _ _ _ _
    refine pm_e_sim pm_a161_16 rfl ?_
    refine pm_e_top (y := iI (s 18 - 1)) (iI_sub _ _) ?_
    show pm_E _ _ _ 17 [(0, .ref 18)] [.int (iI (s 18 - 1)), .ref 27] _ _ _ _
    refine pm_i_ald pm_a161_17 (mh_get (j := 9) hA rfl) (by omega) (by omega) ⟨by omega, by omega⟩ ?_
    show pm_E _ _ _ 18 [(0, .ref 18)] [.int (iI ((a 9) (s 18 - 1)))] _ _ _ _
    refine pm_i_le (t := 100) pm_a161_18 rfl ⟨by omega, by omega⟩ (fun h_2 => ?_) (fun h_2 => ?_)
    · skip
      show pm_E _ _ _ 100 [(0, .ref 18)] [] _ _ _ _
      refine pm_e_sim pm_a161_100 rfl ?_
      show pm_E _ _ _ 101 [(0, .ref 18)] [.ref 18] _ _ _ _
      refine pm_i_get pm_a161_101 rfl (mh_get (j := 0) hA rfl) rfl ?_
      show pm_E _ _ _ 104 [(0, .ref 18)] [.int (iI (s 13))] _ _ _ _
      refine pm_i_ne (t := 130) pm_a161_104 rfl ⟨by omega, by omega⟩ (fun h_3 => ?_) (fun h_3 => ?_)
      · skip
        exfalso; omega
      · skip
        show pm_E _ _ _ 107 [(0, .ref 18)] [] _ _ _ _
        refine pm_e_sim pm_a161_107 rfl ?_
        show pm_E _ _ _ 108 [(0, .ref 18)] [.ref 18] _ _ _ _
        refine pm_i_get pm_a161_108 rfl (mh_get (j := 0) hA rfl) rfl ?_
        show pm_E _ _ _ 111 [(0, .ref 18)] [.ref 26] _ _ _ _
        refine pm_e_sim pm_a161_111 rfl ?_
        show pm_E _ _ _ 112 [(0, .ref 18)] [.ref 18, .ref 26] _ _ _ _
        refine pm_i_get pm_a161_112 rfl (mh_get (j := 0) hA rfl) rfl ?_
        show pm_E _ _ _ 115 [(0, .ref 18)] [.int (iI (s 18)), .ref 26] _ _ _ _
        refine pm_e_sim pm_a161_115 rfl ?_
        refine pm_e_top (y := iI 1) (by decide +kernel) ?_
        show pm_E _ _ _ 116 [(0, .ref 18)] [.int (iI 1), .int (iI (s 18)), .ref 26] _ _ _ _
        refine pm_e_sim pm_a161_116 rfl ?_
        refine pm_e_top (y := iI (s 18 - 1)) (iI_sub _ _) ?_
        show pm_E _ _ _ 117 [(0, .ref 18)] [.int (iI (s 18 - 1)), .ref 26] _ _ _ _
        refine pm_i_bld pm_a161_117 (mh_get (j := 8) hA rfl) (by omega) (by omega) ⟨by omega, by omega⟩ ?_
        show pm_E _ _ _ 118 [(0, .ref 18)] [.int (iI ((a 8) (s 18 - 1)))] _ _ _ _
        refine pm_i_ne (t := 130) pm_a161_118 rfl ⟨by omega, by omega⟩ (fun h_4 => ?_) (fun h_4 => ?_)
        · skip
          exfalso; omega
        · skip
          show pm_E _ _ _ 121 [(0, .ref 18)] [] _ _ _ _
          refine pm_e_sim pm_a161_121 rfl ?_
          show pm_E _ _ _ 122 [(0, .ref 18)] [.ref 18] _ _ _ _
          refine pm_e_sim pm_a161_122 rfl ?_
          refine pm_e_top (y := iI 2) (by decide +kernel) ?_
          show pm_E _ _ _ 123 [(0, .ref 18)] [.int (iI 2), .ref 18] _ _ _ _
          refine pm_e_sim pm_a161_123 rfl ?_
          show pm_E _ _ _ 124 [(0, .ref 18)] [.ref 18, .int (iI 2), .ref 18] _ _ _ _
          refine pm_i_get pm_a161_124 rfl (mh_get (j := 0) hA rfl) rfl ?_
          show pm_E _ _ _ 127 [(0, .ref 18)] [.int (iI (s 10)), .int (iI 2), .ref 18] _ _ _ _
          refine pm_i_callv (k := 18) (T2 := pm_mm153) pm_a161_127 rfl rfl rfl (mh_get (j := 0) hA rfl) ⟨Nat.le_of_ble_eq_true rfl, Nat.le_of_ble_eq_true rfl, rfl, by decide +kernel⟩ ?_
          show pm_E none _ _ 0 [(0, .ref 18), (1, .int (iI 2)), (2, .int (iI (s 10)))] [] _ _ _ _
          refine M_fails hA (by rw [h13]; decide) (fun _ => ?_) (fun z => absurd h13 z)
          show pm_E _ _ _ 130 [(0, .ref 18)] [] _ _ _ _
          refine pm_e_ret pm_a161_130 rfl rfl rfl rfl rfl rfl rfl rfl ?_
          exact k _ (fun j q1 q2 => by simp [updS, q1, q2]) (by show (2 : Int) ≠ 0; decide) (by show fl 2; decide) ⟨rfl, rfl⟩
    · skip
      show pm_E _ _ _ 21 [(0, .ref 18)] [] _ _ _ _
      refine pm_e_sim pm_a161_21 rfl ?_
      show pm_E _ _ _ 22 [(0, .ref 18)] [.ref 18] _ _ _ _
      refine pm_i_get pm_a161_22 rfl (mh_get (j := 0) hA rfl) rfl ?_
      show pm_E _ _ _ 25 [(0, .ref 18)] [.ref 26] _ _ _ _
      refine pm_e_sim pm_a161_25 rfl ?_
      show pm_E _ _ _ 26 [(0, .ref 18)] [.ref 18, .ref 26] _ _ _ _
      refine pm_i_get pm_a161_26 rfl (mh_get (j := 0) hA rfl) rfl ?_
      show pm_E _ _ _ 29 [(0, .ref 18)] [.int (iI (s 18)), .ref 26] _ _ _ _
      refine pm_e_sim pm_a161_29 rfl ?_
      refine pm_e_top (y := iI 1) (by decide +kernel) ?_
      show pm_E _ _ _ 30 [(0, .ref 18)] [.int (iI 1), .int (iI (s 18)), .ref 26] _ _ _ _
      refine pm_e_sim pm_a161_30 rfl ?_
      refine pm_e_top (y := iI (s 18 - 1)) (iI_sub _ _) ?_
      show pm_E _ _ _ 31 [(0, .ref 18)] [.int (iI (s 18 - 1)), .ref 26] _ _ _ _
      refine pm_i_bld pm_a161_31 (mh_get (j := 8) hA rfl) (by omega) (by omega) ⟨by omega, by omega⟩ ?_
      show pm_E _ _ _ 32 [(0, .ref 18)] [.int (iI ((a 8) (s 18 - 1)))] _ _ _ _
      refine pm_i_ne (t := 47) pm_a161_32 rfl ⟨by omega, by omega⟩ (fun h_5 => ?_) (fun h_5 => ?_)
      · skip
        exfalso; omega
      · skip
        show pm_E _ _ _ 35 [(0, .ref 18)] [] _ _ _ _
        refine pm_e_sim pm_a161_35 rfl ?_
        show pm_E _ _ _ 36 [(0, .ref 18)] [.ref 18] _ _ _ _
        refine pm_e_sim pm_a161_36 rfl ?_
        refine pm_e_top (y := iI 2) (by decide +kernel) ?_
        show pm_E _ _ _ 37 [(0, .ref 18)] [.int (iI 2), .ref 18] _ _ _ _
        refine pm_e_sim pm_a161_37 rfl ?_
        show pm_E _ _ _ 38 [(0, .ref 18)] [.ref 18, .int (iI 2), .ref 18] _ _ _ _
        refine pm_i_get pm_a161_38 rfl (mh_get (j := 0) hA rfl) rfl ?_
        show pm_E _ _ _ 41 [(0, .ref 18)] [.int (iI (s 10)), .int (iI 2), .ref 18] _ _ _ _
        refine pm_i_callv (k := 18) (T2 := pm_mm153) pm_a161_41 rfl rfl rfl (mh_get (j := 0) hA rfl) ⟨Nat.le_of_ble_eq_true rfl, Nat.le_of_ble_eq_true rfl, rfl, by decide +kernel⟩ ?_
        show pm_E none _ _ 0 [(0, .ref 18), (1, .int (iI 2)), (2, .int (iI (s 10)))] [] _ _ _ _
        refine M_fails hA (by rw [h13]; decide) (fun _ => ?_) (fun z => absurd h13 z)
        show pm_E _ _ _ 44 [(0, .ref 18)] [] _ _ _ _
        refine pm_e_goto pm_a161_44 rfl ?_
        show pm_E _ _ _ 0 [(0, .ref 18)] [] _ _ _ _
        have h2 : (updS (updS s 13 2) 14 (s 10)) 13 = 2 := rfl
        generalize hs9 : updS (updS s 13 2) 14 (s 10) = s9 at h2
        have k9 : Q none (mh A s9 (lI v) a nm B) 0 0 := by rw [← hs9]; exact k _ (fun j q1 q2 => by simp [updS, q1, q2]) (by show (2 : Int) ≠ 0; decide) (by show fl 2; decide) ⟨rfl, rfl⟩
        refine pm_e_sim pm_a161_0 rfl ?_
        show pm_E _ _ _ 1 [(0, .ref 18)] [.ref 18] _ _ _ _
        refine pm_i_get pm_a161_1 rfl (mh_get (j := 0) hA rfl) rfl ?_
        show pm_E _ _ _ 4 [(0, .ref 18)] [.int (iI (s9 13))] _ _ _ _
        refine pm_i_ne (t := 100) pm_a161_4 rfl ⟨by omega, by omega⟩ (fun h_61 => ?_) (fun h_61 => ?_)
        · skip
          show pm_E _ _ _ 100 [(0, .ref 18)] [] _ _ _ _
          refine pm_e_sim pm_a161_100 rfl ?_
          show pm_E _ _ _ 101 [(0, .ref 18)] [.ref 18] _ _ _ _
          refine pm_i_get pm_a161_101 rfl (mh_get (j := 0) hA rfl) rfl ?_
          show pm_E _ _ _ 104 [(0, .ref 18)] [.int (iI (s9 13))] _ _ _ _
          refine pm_i_ne (t := 130) pm_a161_104 rfl ⟨by omega, by omega⟩ (fun h_62 => ?_) (fun h_62 => ?_)
          · skip
            show pm_E _ _ _ 130 [(0, .ref 18)] [] _ _ _ _
            refine pm_e_ret pm_a161_130 rfl rfl rfl rfl rfl rfl rfl rfl ?_
            exact k9
          · skip
            exfalso; omega
        · skip
          exfalso; omega
set_option maxHeartbeats 4000000 in
set_option maxRecDepth 100000 in
theorem M_closes_l {d : Nat} {A B : List va_E} {v : Int} {nm : Nat → Int64} {Q : Option Value → List va_E → Nat → Nat → Prop} {a : Nat → Int → Int} (hA : A.length = 18) : ∀ (f : Nat) (x : Lev) (r : List Lev) (ns : List Int) (s : Nat → Int), RL (x :: r, ns, 0, 0) s a nm → gL (x :: r) ns.length (-1) → 1 ≤ x.2.1 → s 13 = 0 → (∀ s', (∀ j, j ≠ 18 → j ≠ 20 → j ≠ 21 → s' j = s j) → s' 13 = 0 → RL ((pPop x r ns).1 :: (pPop x r ns).2.1, (pPop x r ns).2.2, 0, 0) s' a nm → Q none (mh A s' (lI v) a nm B) 0 0) → (r.length : Int) < (f : Int) → pm_E none (d + 1) pm_mm161 0 [(0, .ref 18)] [] (mh A s (lI v) a nm B) 0 0 Q := by
  intro f
  induction f with
  | zero =>
    intro x r ns s hR hg hc h13 k hf
    exfalso; omega
  | succ f ih =>
    intro x r ns s hR hg hc h13 k hf
    have hl := RL_len hR
    obtain ⟨t1, t2, t3, t4, t5⟩ := RL_top hR
    rw [if_neg (by omega)] at t3
    refine pm_e_sim pm_a161_0 rfl ?_
    show pm_E _ _ _ 1 [(0, .ref 18)] [.ref 18] _ _ _ _
    refine pm_i_get pm_a161_1 rfl (mh_get (j := 0) hA rfl) rfl ?_
    show pm_E _ _ _ 4 [(0, .ref 18)] [.int (iI (s 13))] _ _ _ _
    refine pm_i_ne (t := 100) pm_a161_4 rfl ⟨by omega, by omega⟩ (fun h_1 => ?_) (fun h_1 => ?_)
    · skip
      exfalso; omega
    · skip
      show pm_E _ _ _ 7 [(0, .ref 18)] [] _ _ _ _
      refine pm_e_sim pm_a161_7 rfl ?_
      show pm_E _ _ _ 8 [(0, .ref 18)] [.ref 18] _ _ _ _
      refine pm_i_get pm_a161_8 rfl (mh_get (j := 0) hA rfl) rfl ?_
      show pm_E _ _ _ 11 [(0, .ref 18)] [.ref 27] _ _ _ _
      refine pm_e_sim pm_a161_11 rfl ?_
      show pm_E _ _ _ 12 [(0, .ref 18)] [.ref 18, .ref 27] _ _ _ _
      refine pm_i_get pm_a161_12 rfl (mh_get (j := 0) hA rfl) rfl ?_
      show pm_E _ _ _ 15 [(0, .ref 18)] [.int (iI (s 18)), .ref 27] _ _ _ _
      refine pm_e_sim pm_a161_15 rfl ?_
      refine pm_e_top (y := iI 1) (by decide +kernel) ?_
      show pm_E _ _ _ 16 [(0, .ref 18)] [.int (iI 1), .int (iI (s 18)), .ref 27] _ _ _ _
      refine pm_e_sim pm_a161_16 rfl ?_
      refine pm_e_top (y := iI (s 18 - 1)) (iI_sub _ _) ?_
      show pm_E _ _ _ 17 [(0, .ref 18)] [.int (iI (s 18 - 1)), .ref 27] _ _ _ _
      refine pm_i_ald pm_a161_17 (mh_get (j := 9) hA rfl) (by omega) (by omega) ⟨by omega, by omega⟩ ?_
      show pm_E _ _ _ 18 [(0, .ref 18)] [.int (iI ((a 9) (s 18 - 1)))] _ _ _ _
      refine pm_i_le (t := 100) pm_a161_18 rfl ⟨by omega, by omega⟩ (fun h_2 => ?_) (fun h_2 => ?_)
      · skip
        show pm_E _ _ _ 100 [(0, .ref 18)] [] _ _ _ _
        refine pm_e_sim pm_a161_100 rfl ?_
        show pm_E _ _ _ 101 [(0, .ref 18)] [.ref 18] _ _ _ _
        refine pm_i_get pm_a161_101 rfl (mh_get (j := 0) hA rfl) rfl ?_
        show pm_E _ _ _ 104 [(0, .ref 18)] [.int (iI (s 13))] _ _ _ _
        refine pm_i_ne (t := 130) pm_a161_104 rfl ⟨by omega, by omega⟩ (fun h_3 => ?_) (fun h_3 => ?_)
        · skip
          exfalso; omega
        · skip
          show pm_E _ _ _ 107 [(0, .ref 18)] [] _ _ _ _
          refine pm_e_sim pm_a161_107 rfl ?_
          show pm_E _ _ _ 108 [(0, .ref 18)] [.ref 18] _ _ _ _
          refine pm_i_get pm_a161_108 rfl (mh_get (j := 0) hA rfl) rfl ?_
          show pm_E _ _ _ 111 [(0, .ref 18)] [.ref 26] _ _ _ _
          refine pm_e_sim pm_a161_111 rfl ?_
          show pm_E _ _ _ 112 [(0, .ref 18)] [.ref 18, .ref 26] _ _ _ _
          refine pm_i_get pm_a161_112 rfl (mh_get (j := 0) hA rfl) rfl ?_
          show pm_E _ _ _ 115 [(0, .ref 18)] [.int (iI (s 18)), .ref 26] _ _ _ _
          refine pm_e_sim pm_a161_115 rfl ?_
          refine pm_e_top (y := iI 1) (by decide +kernel) ?_
          show pm_E _ _ _ 116 [(0, .ref 18)] [.int (iI 1), .int (iI (s 18)), .ref 26] _ _ _ _
          refine pm_e_sim pm_a161_116 rfl ?_
          refine pm_e_top (y := iI (s 18 - 1)) (iI_sub _ _) ?_
          show pm_E _ _ _ 117 [(0, .ref 18)] [.int (iI (s 18 - 1)), .ref 26] _ _ _ _
          refine pm_i_bld pm_a161_117 (mh_get (j := 8) hA rfl) (by omega) (by omega) ⟨by omega, by omega⟩ ?_
          show pm_E _ _ _ 118 [(0, .ref 18)] [.int (iI ((a 8) (s 18 - 1)))] _ _ _ _
          refine pm_i_ne (t := 130) pm_a161_118 rfl ⟨by omega, by omega⟩ (fun h_4 => ?_) (fun h_4 => ?_)
          · skip
            show pm_E _ _ _ 130 [(0, .ref 18)] [] _ _ _ _
            refine pm_e_ret pm_a161_130 rfl rfl rfl rfl rfl rfl rfl rfl ?_
            have hpp : pPop x r ns = (x, r, ns) := by
              cases r with
              | nil => rfl
              | cons y r =>
                show (if 0 < x.1 then _ else _) = _
                rw [if_neg (by omega)]
            rw [hpp] at k
            exact k s (fun j _ _ _ => rfl) h13 hR
          · skip
            exfalso; omega
      · skip
        show pm_E _ _ _ 21 [(0, .ref 18)] [] _ _ _ _
        refine pm_e_sim pm_a161_21 rfl ?_
        show pm_E _ _ _ 22 [(0, .ref 18)] [.ref 18] _ _ _ _
        refine pm_i_get pm_a161_22 rfl (mh_get (j := 0) hA rfl) rfl ?_
        show pm_E _ _ _ 25 [(0, .ref 18)] [.ref 26] _ _ _ _
        refine pm_e_sim pm_a161_25 rfl ?_
        show pm_E _ _ _ 26 [(0, .ref 18)] [.ref 18, .ref 26] _ _ _ _
        refine pm_i_get pm_a161_26 rfl (mh_get (j := 0) hA rfl) rfl ?_
        show pm_E _ _ _ 29 [(0, .ref 18)] [.int (iI (s 18)), .ref 26] _ _ _ _
        refine pm_e_sim pm_a161_29 rfl ?_
        refine pm_e_top (y := iI 1) (by decide +kernel) ?_
        show pm_E _ _ _ 30 [(0, .ref 18)] [.int (iI 1), .int (iI (s 18)), .ref 26] _ _ _ _
        refine pm_e_sim pm_a161_30 rfl ?_
        refine pm_e_top (y := iI (s 18 - 1)) (iI_sub _ _) ?_
        show pm_E _ _ _ 31 [(0, .ref 18)] [.int (iI (s 18 - 1)), .ref 26] _ _ _ _
        refine pm_i_bld pm_a161_31 (mh_get (j := 8) hA rfl) (by omega) (by omega) ⟨by omega, by omega⟩ ?_
        show pm_E _ _ _ 32 [(0, .ref 18)] [.int (iI ((a 8) (s 18 - 1)))] _ _ _ _
        refine pm_i_ne (t := 47) pm_a161_32 rfl ⟨by omega, by omega⟩ (fun h_5 => ?_) (fun h_5 => ?_)
        · skip
          show pm_E _ _ _ 47 [(0, .ref 18)] [] _ _ _ _
          refine pm_e_sim pm_a161_47 rfl ?_
          show pm_E _ _ _ 48 [(0, .ref 18)] [.ref 18] _ _ _ _
          refine pm_e_sim pm_a161_48 rfl ?_
          show pm_E _ _ _ 49 [(0, .ref 18)] [.ref 18, .ref 18] _ _ _ _
          refine pm_i_get pm_a161_49 rfl (mh_get (j := 0) hA rfl) rfl ?_
          show pm_E _ _ _ 52 [(0, .ref 18)] [.int (iI (s 20)), .ref 18] _ _ _ _
          refine pm_e_sim pm_a161_52 rfl ?_
          show pm_E _ _ _ 53 [(0, .ref 18)] [.ref 18, .int (iI (s 20)), .ref 18] _ _ _ _
          refine pm_i_get pm_a161_53 rfl (mh_get (j := 0) hA rfl) rfl ?_
          show pm_E _ _ _ 56 [(0, .ref 18)] [.ref 27, .int (iI (s 20)), .ref 18] _ _ _ _
          refine pm_e_sim pm_a161_56 rfl ?_
          show pm_E _ _ _ 57 [(0, .ref 18)] [.ref 18, .ref 27, .int (iI (s 20)), .ref 18] _ _ _ _
          refine pm_i_get pm_a161_57 rfl (mh_get (j := 0) hA rfl) rfl ?_
          show pm_E _ _ _ 60 [(0, .ref 18)] [.int (iI (s 18)), .ref 27, .int (iI (s 20)), .ref 18] _ _ _ _
          refine pm_e_sim pm_a161_60 rfl ?_
          refine pm_e_top (y := iI 1) (by decide +kernel) ?_
          show pm_E _ _ _ 61 [(0, .ref 18)] [.int (iI 1), .int (iI (s 18)), .ref 27, .int (iI (s 20)), .ref 18] _ _ _ _
          refine pm_e_sim pm_a161_61 rfl ?_
          refine pm_e_top (y := iI (s 18 - 1)) (iI_sub _ _) ?_
          show pm_E _ _ _ 62 [(0, .ref 18)] [.int (iI (s 18 - 1)), .ref 27, .int (iI (s 20)), .ref 18] _ _ _ _
          refine pm_i_ald pm_a161_62 (mh_get (j := 9) hA rfl) (by omega) (by omega) ⟨by omega, by omega⟩ ?_
          show pm_E _ _ _ 63 [(0, .ref 18)] [.int (iI ((a 9) (s 18 - 1))), .int (iI (s 20)), .ref 18] _ _ _ _
          refine pm_e_sim pm_a161_63 rfl ?_
          refine pm_e_top (y := iI (s 20 - ((a 9) (s 18 - 1)))) (iI_sub _ _) ?_
          show pm_E _ _ _ 64 [(0, .ref 18)] [.int (iI (s 20 - ((a 9) (s 18 - 1)))), .ref 18] _ _ _ _
          refine pm_i_put pm_a161_64 rfl (mh_get (j := 0) hA rfl) rfl (Nat.le_of_ble_eq_true rfl) (Or.inl rfl) (mw_20 hA _) ?_
          show pm_E _ _ _ 67 [(0, .ref 18)] [] _ _ _ _
          refine pm_e_sim pm_a161_67 rfl ?_
          show pm_E _ _ _ 68 [(0, .ref 18)] [.ref 18] _ _ _ _
          refine pm_e_sim pm_a161_68 rfl ?_
          show pm_E _ _ _ 69 [(0, .ref 18)] [.ref 18, .ref 18] _ _ _ _
          refine pm_i_get pm_a161_69 rfl (mh_get (j := 0) hA rfl) rfl ?_
          show pm_E _ _ _ 72 [(0, .ref 18)] [.int (iI (s 21)), .ref 18] _ _ _ _
          refine pm_e_sim pm_a161_72 rfl ?_
          show pm_E _ _ _ 73 [(0, .ref 18)] [.ref 18, .int (iI (s 21)), .ref 18] _ _ _ _
          refine pm_i_get pm_a161_73 rfl (mh_get (j := 0) hA rfl) rfl ?_
          show pm_E _ _ _ 76 [(0, .ref 18)] [.ref 27, .int (iI (s 21)), .ref 18] _ _ _ _
          refine pm_e_sim pm_a161_76 rfl ?_
          show pm_E _ _ _ 77 [(0, .ref 18)] [.ref 18, .ref 27, .int (iI (s 21)), .ref 18] _ _ _ _
          refine pm_i_get pm_a161_77 rfl (mh_get (j := 0) hA rfl) rfl ?_
          show pm_E _ _ _ 80 [(0, .ref 18)] [.int (iI (s 18)), .ref 27, .int (iI (s 21)), .ref 18] _ _ _ _
          refine pm_e_sim pm_a161_80 rfl ?_
          refine pm_e_top (y := iI 1) (by decide +kernel) ?_
          show pm_E _ _ _ 81 [(0, .ref 18)] [.int (iI 1), .int (iI (s 18)), .ref 27, .int (iI (s 21)), .ref 18] _ _ _ _
          refine pm_e_sim pm_a161_81 rfl ?_
          refine pm_e_top (y := iI (s 18 - 1)) (iI_sub _ _) ?_
          show pm_E _ _ _ 82 [(0, .ref 18)] [.int (iI (s 18 - 1)), .ref 27, .int (iI (s 21)), .ref 18] _ _ _ _
          refine pm_i_ald pm_a161_82 (mh_get (j := 9) hA rfl) (by omega) (by omega) ⟨by omega, by omega⟩ ?_
          show pm_E _ _ _ 83 [(0, .ref 18)] [.int (iI ((a 9) (s 18 - 1))), .int (iI (s 21)), .ref 18] _ _ _ _
          refine pm_e_sim pm_a161_83 rfl ?_
          refine pm_e_top (y := iI (s 21 - ((a 9) (s 18 - 1)))) (iI_sub _ _) ?_
          show pm_E _ _ _ 84 [(0, .ref 18)] [.int (iI (s 21 - ((a 9) (s 18 - 1)))), .ref 18] _ _ _ _
          refine pm_i_put pm_a161_84 rfl (mh_get (j := 0) hA rfl) rfl (Nat.le_of_ble_eq_true rfl) (Or.inl rfl) (mw_21 hA _) ?_
          show pm_E _ _ _ 87 [(0, .ref 18)] [] _ _ _ _
          refine pm_e_sim pm_a161_87 rfl ?_
          show pm_E _ _ _ 88 [(0, .ref 18)] [.ref 18] _ _ _ _
          refine pm_e_sim pm_a161_88 rfl ?_
          show pm_E _ _ _ 89 [(0, .ref 18)] [.ref 18, .ref 18] _ _ _ _
          refine pm_i_get pm_a161_89 rfl (mh_get (j := 0) hA rfl) rfl ?_
          show pm_E _ _ _ 92 [(0, .ref 18)] [.int (iI (s 18)), .ref 18] _ _ _ _
          refine pm_e_sim pm_a161_92 rfl ?_
          refine pm_e_top (y := iI 1) (by decide +kernel) ?_
          show pm_E _ _ _ 93 [(0, .ref 18)] [.int (iI 1), .int (iI (s 18)), .ref 18] _ _ _ _
          refine pm_e_sim pm_a161_93 rfl ?_
          refine pm_e_top (y := iI (s 18 - 1)) (iI_sub _ _) ?_
          show pm_E _ _ _ 94 [(0, .ref 18)] [.int (iI (s 18 - 1)), .ref 18] _ _ _ _
          refine pm_i_put pm_a161_94 rfl (mh_get (j := 0) hA rfl) rfl (Nat.le_of_ble_eq_true rfl) (Or.inl rfl) (mw_18 hA _) ?_
          show pm_E _ _ _ 97 [(0, .ref 18)] [] _ _ _ _
          refine pm_e_goto pm_a161_97 rfl ?_
          show pm_E _ _ _ 0 [(0, .ref 18)] [] _ _ _ _
          cases r with
          | nil =>
            exfalso
            rcases hR.2.2.2.2.2.2.1 with ⟨z, _⟩ | ⟨_, z⟩
            · omega
            · exact z.elim
          | cons y r =>
            have hpp : pPop x (y :: r) ns = pPop (y.1, y.2.1, y.2.2 ++ ([-x.2.1] ++ x.2.2)) r (ns.drop x.1.toNat) := by
              show (if 0 < x.1 then _ else _) = _
              rw [if_pos (by omega)]
            rw [hpp] at k
            have h5 : gL (y :: r) ((ns.length : Int) - x.1) x.1 := hg.2.2.2.2.elim (fun z => by have := z.2.1; cases this) (fun z => z.2)
            have hk : x.1 ≤ ns.length := by have := h5.1; omega
            have e : ((ns.drop x.1.toNat).length : Int) = ns.length - x.1 := by rw [List.length_drop]; omega
            refine ih (y.1, y.2.1, y.2.2 ++ ([-x.2.1] ++ x.2.2)) r (ns.drop x.1.toNat) _ (RL_pop hR hg (by omega) rfl (by show s 20 - a 9 (s 18 - 1) = _; rw [t2]) (by show s 21 - a 9 (s 18 - 1) = _; rw [t2])) (by rw [e]; exact gL_pop hg hc (by omega)) (h5.2.2.1 (by omega)) h13 ?_ (by rw [List.length_cons] at hf; omega)
            intro s' fS h1 h2
            exact k s' (fun j q1 q2 q3 => by rw [fS j q1 q2 q3]; simp [updS, q1, q2, q3]) h1 h2
        · skip
          exfalso; omega
