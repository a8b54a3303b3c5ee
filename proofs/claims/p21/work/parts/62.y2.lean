/-! THE CLASS: Typer, exactly: rootOf, join, joinAll -/
set_option maxHeartbeats 4000000 in
set_option maxRecDepth 100000 in
theorem C_zroot_l {d n : Nat} {kd pl : Nat → Nat} {M : List va_E} {Q : Option Value → List va_E → Nat → Nat → Prop} {s : Nat → Int} {c : Nat → cdt} {rt : Int → Int} {a0 : Nat → Int → Int} {x : Int} {τ : Int → Int} (hW : wf n kd pl) (h203 : al n kd pl 203) (hK : s 20 ≤ 2800) : ∀ (f : Nat) (r i : Int) (a : Nat → Int → Int), LRr (s 20) (a 11) rt → LRt (s 20) (a 11) τ → 0 ≤ r → r < s 20 → rt r = rt x → 0 ≤ i → i ≤ 2800 → (a 11 r ≠ r → i ≤ τ r) → (∀ j, j ≠ 11 → a j = a0 j) → cnr (a 11) (s 20).toNat = cnr (a0 11) (s 20).toNat → (∀ lk', LR (s 20) lk' rt → cnr lk' (s 20).toNat = cnr (a0 11) (s 20).toNat → Q (some (.int (iI (rt x)))) (ch n kd pl s (updA a0 11 lk') c M) 0 0) → 2801 - i < (f : Int) → pm_E none (d + 1) pm_mm122 4 [(0, .ref (pl 203)), (1, .int (iI x)), (2, .int (iI r)), (3, .int (iI i))] [] (ch n kd pl s a c M) 0 0 Q := by
  intro f
  induction f with
  | zero =>
    intro r i a h1 h2 hr0 hr1 hx hi0 hi1 hti fA hc k hf
    exfalso; omega
  | succ f ih =>
    intro r i a h1 h2 hr0 hr1 hx hi0 hi1 hti fA hc k hf
    have p1 := h1 r hr0 hr1
    have p2 := h1 (a 11 r) p1.1.1 p1.1.2
    have cl := cnr_le (lk := a 11) (n := (s 20).toNat)
    have hi2 : a 11 r ≠ r → i < 2800 := fun z => by have := hti z; have := h2 r hr0 hr1 z; omega
    refine pm_e_sim pm_a122_4 rfl ?_
    show pm_E _ _ _ 5 [(0, .ref (pl 203)), (1, .int (iI x)), (2, .int (iI r)), (3, .int (iI i))] [.int (iI i)] _ _ _ _
    refine pm_e_sim pm_a122_5 rfl ?_
    refine pm_e_top (y := iI 2800) (by decide +kernel) ?_
    show pm_E _ _ _ 8 [(0, .ref (pl 203)), (1, .int (iI x)), (2, .int (iI r)), (3, .int (iI i))] [.int (iI 2800), .int (iI i)] _ _ _ _
    refine pm_c_ge (t := 61) pm_a122_8 rfl ⟨by omega, by omega⟩ ⟨by omega, by omega⟩ (fun h_1 => ?_) (fun h_1 => ?_)
    · skip
      show pm_E _ _ _ 61 [(0, .ref (pl 203)), (1, .int (iI x)), (2, .int (iI r)), (3, .int (iI i))] [] _ _ _ _
      refine pm_e_sim pm_a122_61 rfl ?_
      show pm_E _ _ _ 62 [(0, .ref (pl 203)), (1, .int (iI x)), (2, .int (iI r)), (3, .int (iI i))] [.int (iI r)] _ _ _ _
      refine pm_e_ret pm_a122_62 rfl rfl rfl rfl rfl rfl rfl rfl ?_
      have hrx : r = rt x := by
        by_cases c9 : a 11 r = r
        · rw [← hx]; exact (p1.2.2.1 c9).symm
        · have := hti c9; have := h2 r hr0 hr1 c9; have := cnr_le (lk := a 11) (n := (s 20).toNat); omega
      rw [hrx]
      have ea : a = updA a0 11 (a 11) := by
        funext j
        by_cases cj : j = 11
        · subst cj; simp [updA]
        · simp [updA, cj, fA j cj]
      rw [ea]
      exact k _ ⟨h1, τ, h2⟩ hc
    · skip
      show pm_E _ _ _ 11 [(0, .ref (pl 203)), (1, .int (iI x)), (2, .int (iI r)), (3, .int (iI i))] [] _ _ _ _
      refine pm_e_sim pm_a122_11 rfl ?_
      show pm_E _ _ _ 12 [(0, .ref (pl 203)), (1, .int (iI x)), (2, .int (iI r)), (3, .int (iI i))] [.ref (pl 203)] _ _ _ _
      refine pm_i_get pm_a122_12 rfl (cg_203 hW h203) rfl ?_
      show pm_E _ _ _ 15 [(0, .ref (pl 203)), (1, .int (iI x)), (2, .int (iI r)), (3, .int (iI i))] [.ref (pl 206)] _ _ _ _
      refine pm_e_sim pm_a122_15 rfl ?_
      show pm_E _ _ _ 16 [(0, .ref (pl 203)), (1, .int (iI x)), (2, .int (iI r)), (3, .int (iI i))] [.int (iI r), .ref (pl 206)] _ _ _ _
      refine pm_e_call (T2 := pm_mm123) pm_a122_16 rfl rfl rfl rfl rfl rfl rfl rfl rfl ?_
      show pm_E none _ _ 0 [(0, .ref (pl 206)), (1, .int (iI r))] [] _ _ _ _
      refine C_zat_206 hW h203 (by omega) (by omega) ?_
      show pm_E _ _ _ 19 [(0, .ref (pl 203)), (1, .int (iI x)), (2, .int (iI r)), (3, .int (iI i))] [.int (iI (a 11 r))] _ _ _ _
      refine pm_e_sim pm_a122_19 rfl ?_
      show pm_E _ _ _ 20 [(0, .ref (pl 203)), (1, .int (iI x)), (2, .int (iI r)), (3, .int (iI i))] [.int (iI r), .int (iI (a 11 r))] _ _ _ _
      refine pm_c_eq (t := 61) pm_a122_20 rfl ⟨by omega, by omega⟩ ⟨by omega, by omega⟩ (fun h_2 => ?_) (fun h_2 => ?_)
      · skip
        show pm_E _ _ _ 61 [(0, .ref (pl 203)), (1, .int (iI x)), (2, .int (iI r)), (3, .int (iI i))] [] _ _ _ _
        refine pm_e_sim pm_a122_61 rfl ?_
        show pm_E _ _ _ 62 [(0, .ref (pl 203)), (1, .int (iI x)), (2, .int (iI r)), (3, .int (iI i))] [.int (iI r)] _ _ _ _
        refine pm_e_ret pm_a122_62 rfl rfl rfl rfl rfl rfl rfl rfl ?_
        have hrx : r = rt x := by
          by_cases c9 : a 11 r = r
          · rw [← hx]; exact (p1.2.2.1 c9).symm
          · have := hti c9; have := h2 r hr0 hr1 c9; have := cnr_le (lk := a 11) (n := (s 20).toNat); omega
        rw [hrx]
        have ea : a = updA a0 11 (a 11) := by
          funext j
          by_cases cj : j = 11
          · subst cj; simp [updA]
          · simp [updA, cj, fA j cj]
        rw [ea]
        exact k _ ⟨h1, τ, h2⟩ hc
      · skip
        show pm_E _ _ _ 23 [(0, .ref (pl 203)), (1, .int (iI x)), (2, .int (iI r)), (3, .int (iI i))] [] _ _ _ _
        refine pm_e_sim pm_a122_23 rfl ?_
        show pm_E _ _ _ 24 [(0, .ref (pl 203)), (1, .int (iI x)), (2, .int (iI r)), (3, .int (iI i))] [.ref (pl 203)] _ _ _ _
        refine pm_i_get pm_a122_24 rfl (cg_203 hW h203) rfl ?_
        show pm_E _ _ _ 27 [(0, .ref (pl 203)), (1, .int (iI x)), (2, .int (iI r)), (3, .int (iI i))] [.ref (pl 206)] _ _ _ _
        refine pm_e_sim pm_a122_27 rfl ?_
        show pm_E _ _ _ 28 [(0, .ref (pl 203)), (1, .int (iI x)), (2, .int (iI r)), (3, .int (iI i))] [.int (iI r), .ref (pl 206)] _ _ _ _
        refine pm_e_sim pm_a122_28 rfl ?_
        show pm_E _ _ _ 29 [(0, .ref (pl 203)), (1, .int (iI x)), (2, .int (iI r)), (3, .int (iI i))] [.ref (pl 203), .int (iI r), .ref (pl 206)] _ _ _ _
        refine pm_i_get pm_a122_29 rfl (cg_203 hW h203) rfl ?_
        show pm_E _ _ _ 32 [(0, .ref (pl 203)), (1, .int (iI x)), (2, .int (iI r)), (3, .int (iI i))] [.ref (pl 206), .int (iI r), .ref (pl 206)] _ _ _ _
        refine pm_e_sim pm_a122_32 rfl ?_
        show pm_E _ _ _ 33 [(0, .ref (pl 203)), (1, .int (iI x)), (2, .int (iI r)), (3, .int (iI i))] [.ref (pl 203), .ref (pl 206), .int (iI r), .ref (pl 206)] _ _ _ _
        refine pm_i_get pm_a122_33 rfl (cg_203 hW h203) rfl ?_
        show pm_E _ _ _ 36 [(0, .ref (pl 203)), (1, .int (iI x)), (2, .int (iI r)), (3, .int (iI i))] [.ref (pl 206), .ref (pl 206), .int (iI r), .ref (pl 206)] _ _ _ _
        refine pm_e_sim pm_a122_36 rfl ?_
        show pm_E _ _ _ 37 [(0, .ref (pl 203)), (1, .int (iI x)), (2, .int (iI r)), (3, .int (iI i))] [.int (iI r), .ref (pl 206), .ref (pl 206), .int (iI r), .ref (pl 206)] _ _ _ _
        refine pm_e_call (T2 := pm_mm123) pm_a122_37 rfl rfl rfl rfl rfl rfl rfl rfl rfl ?_
        show pm_E none _ _ 0 [(0, .ref (pl 206)), (1, .int (iI r))] [] _ _ _ _
        refine C_zat_206 hW h203 (by omega) (by omega) ?_
        show pm_E _ _ _ 40 [(0, .ref (pl 203)), (1, .int (iI x)), (2, .int (iI r)), (3, .int (iI i))] [.int (iI (a 11 r)), .ref (pl 206), .int (iI r), .ref (pl 206)] _ _ _ _
        refine pm_e_call (T2 := pm_mm123) pm_a122_40 rfl rfl rfl rfl rfl rfl rfl rfl rfl ?_
        show pm_E none _ _ 0 [(0, .ref (pl 206)), (1, .int (iI (a 11 r)))] [] _ _ _ _
        refine C_zat_206 hW h203 (by omega) (by omega) ?_
        show pm_E _ _ _ 43 [(0, .ref (pl 203)), (1, .int (iI x)), (2, .int (iI r)), (3, .int (iI i))] [.int (iI (a 11 (a 11 r))), .int (iI r), .ref (pl 206)] _ _ _ _
        refine pm_e_call (T2 := pm_mm114) pm_a122_43 rfl rfl rfl rfl rfl rfl rfl rfl rfl ?_
        show pm_E none _ _ 0 [(0, .ref (pl 206)), (1, .int (iI r)), (2, .int (iI (a 11 (a 11 r))))] [] _ _ _ _
        refine C_zset_206 hW h203 (by omega) (by omega) ?_
        show pm_E _ _ _ 46 [(0, .ref (pl 203)), (1, .int (iI x)), (2, .int (iI r)), (3, .int (iI i))] [] _ _ _ _
        refine pm_e_sim pm_a122_46 rfl ?_
        show pm_E _ _ _ 47 [(0, .ref (pl 203)), (1, .int (iI x)), (2, .int (iI r)), (3, .int (iI i))] [.ref (pl 203)] _ _ _ _
        refine pm_i_get pm_a122_47 rfl (cg_203 hW h203) rfl ?_
        show pm_E _ _ _ 50 [(0, .ref (pl 203)), (1, .int (iI x)), (2, .int (iI r)), (3, .int (iI i))] [.ref (pl 206)] _ _ _ _
        refine pm_e_sim pm_a122_50 rfl ?_
        show pm_E _ _ _ 51 [(0, .ref (pl 203)), (1, .int (iI x)), (2, .int (iI r)), (3, .int (iI i))] [.int (iI r), .ref (pl 206)] _ _ _ _
        refine pm_e_call (T2 := pm_mm123) pm_a122_51 rfl rfl rfl rfl rfl rfl rfl rfl rfl ?_
        show pm_E none _ _ 0 [(0, .ref (pl 206)), (1, .int (iI r))] [] _ _ _ _
        refine C_zat_206 hW h203 (by omega) (by omega) ?_
        show pm_E _ _ _ 54 [(0, .ref (pl 203)), (1, .int (iI x)), (2, .int (iI r)), (3, .int (iI i))] [.int (iI ((updI (a 11) r (a 11 (a 11 r))) r))] _ _ _ _
        refine pm_e_sim pm_a122_54 rfl ?_
        show pm_E _ _ _ 55 [(0, .ref (pl 203)), (1, .int (iI x)), (2, .int (iI ((updI (a 11) r (a 11 (a 11 r))) r))), (3, .int (iI i))] [] _ _ _ _
        refine pm_e_inc (y := iI (i + 1)) pm_a122_55 rfl (iI_add _ _) (by decide +kernel) rfl ?_
        show pm_E _ _ _ 58 [(0, .ref (pl 203)), (1, .int (iI x)), (2, .int (iI ((updI (a 11) r (a 11 (a 11 r))) r))), (3, .int (iI (i + 1)))] [] _ _ _ _
        refine pm_e_goto pm_a122_58 rfl ?_
        show pm_E _ _ _ 4 [(0, .ref (pl 203)), (1, .int (iI x)), (2, .int (iI ((updI (a 11) r (a 11 (a 11 r))) r))), (3, .int (iI (i + 1)))] [] _ _ _ _
        obtain ⟨⟨hv1, hv2⟩, hv3, hv4⟩ := LR_halve h1 h2 ⟨hr0, hr1⟩ (by omega)
        have hre : updI (a 11) r (a 11 (a 11 r)) r = a 11 (a 11 r) := updI_s _ _ _
        refine ih (updI (a 11) r (a 11 (a 11 r)) r) (i + 1) _ hv1 hv2 (by omega) (by omega) (by rw [hre, p2.2.1, p1.2.1]; exact hx) (by omega) (by have := hi2 (by omega); omega) (fun z => ?_) (fun j hj => by rw [← fA j hj]; simp [updA, hj]) (hv3.trans hc) k (by omega)
        rw [hre] at z ⊢
        have := hv4 z
        have := hti (by omega)
        omega
set_option maxHeartbeats 4000000 in
set_option maxRecDepth 100000 in
theorem C_zrootOf {d n : Nat} {kd pl : Nat → Nat} {s : Nat → Int} {a : Nat → Int → Int} {c : Nat → cdt} {M : List va_E} {Q : Option Value → List va_E → Nat → Nat → Prop} {x : Int} {rt : Int → Int} (hW : wf n kd pl) (h203 : al n kd pl 203) (hK : s 20 ≤ 2800) (hL : LR (s 20) (a 11) rt) (hx0 : 0 ≤ x) (hx1 : x < s 20) (k : ∀ lk', LR (s 20) lk' rt → cnr lk' (s 20).toNat = cnr (a 11) (s 20).toNat → Q (some (.int (iI (rt x)))) (ch n kd pl s (updA a 11 lk') c M) 0 0) : pm_E none (d + 1) pm_mm122 0 [(0, .ref (pl 203)), (1, .int (iI x))] [] (ch n kd pl s a c M) 0 0 Q := by
  refine pm_e_sim pm_a122_0 rfl ?_
  show pm_E _ _ _ 1 [(0, .ref (pl 203)), (1, .int (iI x))] [.int (iI x)] _ _ _ _
  refine pm_e_sim pm_a122_1 rfl ?_
  show pm_E _ _ _ 2 [(0, .ref (pl 203)), (1, .int (iI x)), (2, .int (iI x))] [] _ _ _ _
  refine pm_e_sim pm_a122_2 rfl ?_
  refine pm_e_top (y := iI 0) (by decide +kernel) ?_
  show pm_E _ _ _ 3 [(0, .ref (pl 203)), (1, .int (iI x)), (2, .int (iI x))] [.int (iI 0)] _ _ _ _
  refine pm_e_sim pm_a122_3 rfl ?_
  show pm_E _ _ _ 4 [(0, .ref (pl 203)), (1, .int (iI x)), (2, .int (iI x)), (3, .int (iI 0))] [] _ _ _ _
  obtain ⟨h1, τ, h2⟩ := id hL
  exact C_zroot_l (a0 := a) (τ := τ) hW h203 hK 2802 x 0 a h1 h2 hx0 hx1 rfl (by omega) (by omega) (fun z => (h2 x hx0 hx1 z).1) (fun j _ => rfl) rfl k (by omega)
set_option maxHeartbeats 4000000 in
set_option maxRecDepth 100000 in
theorem C_zjoin {d n : Nat} {kd pl : Nat → Nat} {s : Nat → Int} {a : Nat → Int → Int} {c : Nat → cdt} {M : List va_E} {Q : Option Value → List va_E → Nat → Nat → Prop} {x y q : Int} {rt : Int → Int} {W W' : Int → Int → Prop} {P : Int → Prop} {X : (Int → List Int) → Prop} (hW : wf n kd pl) (h203 : al n kd pl 203) (hK : s 20 ≤ 2800) (hJ : JI (s 20) (a 9) (a 10) (a 11) rt W P X) (hx : 0 ≤ x ∧ x < s 20) (hy : 0 ≤ y ∧ y < s 20) (hxy : W x y) (hW1 : ∀ u v, W u v → (u = x ∧ v = y) ∨ W' u v) (hW2 : ∀ u v, W' u v → W u v) (hq0 : 0 ≤ q) (hq1 : q ≤ cnr (a 11) (s 20).toNat) (k : ∀ a' rt' q', (∀ j, j ≠ 11 → j ≠ 12 → a' j = a j) → JI (s 20) (a 9) (a 10) (a' 11) rt' W' (JQ P (a' 12) q q') X → q ≤ q' → (∀ j, 0 ≤ j → j < q → a' 12 j = a 12 j) → q' ≤ cnr (a' 11) (s 20).toNat → Q (some (.int (iI q'))) (ch n kd pl s a' c M) 0 0) : pm_E none (d + 2) pm_mm121 0 [(0, .ref (pl 203)), (1, .int (iI x)), (2, .int (iI y)), (3, .int (iI q))] [] (ch n kd pl s a c M) 0 0 Q := by
  have hFr : ∀ k, 0 ≤ k → k < s 20 → a 9 k = -1 ∨ (0 ≤ a 9 k ∧ a 9 k < s 20) := fun k z y => by
    by_cases c : a 9 k = -1
    · exact Or.inl c
    · exact Or.inr (hJ.2.1.2.2.1 k z y c).1
  have cl0 := cnr_le (lk := a 11) (n := (s 20).toNat)
  refine pm_e_sim pm_a121_0 rfl ?_
  show pm_E _ _ _ 1 [(0, .ref (pl 203)), (1, .int (iI x)), (2, .int (iI y)), (3, .int (iI q))] [.ref (pl 203)] _ _ _ _
  refine pm_e_sim pm_a121_1 rfl ?_
  show pm_E _ _ _ 2 [(0, .ref (pl 203)), (1, .int (iI x)), (2, .int (iI y)), (3, .int (iI q))] [.int (iI x), .ref (pl 203)] _ _ _ _
  refine pm_i_callv (k := (pl 203)) (T2 := pm_mm122) pm_a121_2 rfl rfl rfl (cg_203 hW h203) ⟨Nat.le_of_ble_eq_true rfl, Nat.le_of_ble_eq_true rfl, rfl, by decide +kernel⟩ ?_
  show pm_E none _ _ 0 [(0, .ref (pl 203)), (1, .int (iI x))] [] _ _ _ _
  have g_1 := hJ.2.1.2.1 x (by omega) (by omega)
  refine C_zrootOf (rt := rt) hW h203 hK hJ.1 (by omega) (by omega) (fun lk1 hL1 hc1 => ?_)
  show pm_E _ _ _ 5 [(0, .ref (pl 203)), (1, .int (iI x)), (2, .int (iI y)), (3, .int (iI q))] [.int (iI (rt x))] _ _ _ _
  refine pm_e_sim pm_a121_5 rfl ?_
  show pm_E _ _ _ 7 [(0, .ref (pl 203)), (1, .int (iI x)), (2, .int (iI y)), (3, .int (iI q)), (4, .int (iI (rt x)))] [] _ _ _ _
  refine pm_e_sim pm_a121_7 rfl ?_
  show pm_E _ _ _ 8 [(0, .ref (pl 203)), (1, .int (iI x)), (2, .int (iI y)), (3, .int (iI q)), (4, .int (iI (rt x)))] [.ref (pl 203)] _ _ _ _
  refine pm_e_sim pm_a121_8 rfl ?_
  show pm_E _ _ _ 9 [(0, .ref (pl 203)), (1, .int (iI x)), (2, .int (iI y)), (3, .int (iI q)), (4, .int (iI (rt x)))] [.int (iI y), .ref (pl 203)] _ _ _ _
  refine pm_i_callv (k := (pl 203)) (T2 := pm_mm122) pm_a121_9 rfl rfl rfl (cg_203 hW h203) ⟨Nat.le_of_ble_eq_true rfl, Nat.le_of_ble_eq_true rfl, rfl, by decide +kernel⟩ ?_
  show pm_E none _ _ 0 [(0, .ref (pl 203)), (1, .int (iI y))] [] _ _ _ _
  have g_2 := hJ.2.1.2.1 y (by omega) (by omega)
  refine C_zrootOf (rt := rt) hW h203 hK hL1 (by omega) (by omega) (fun lk2 hL2 hc2 => ?_)
  replace hc2 := hc2.trans hc1
  show pm_E _ _ _ 12 [(0, .ref (pl 203)), (1, .int (iI x)), (2, .int (iI y)), (3, .int (iI q)), (4, .int (iI (rt x)))] [.int (iI (rt y))] _ _ _ _
  refine pm_e_sim pm_a121_12 rfl ?_
  show pm_E _ _ _ 14 [(0, .ref (pl 203)), (1, .int (iI x)), (2, .int (iI y)), (3, .int (iI q)), (4, .int (iI (rt x))), (5, .int (iI (rt y)))] [] _ _ _ _
  refine pm_e_sim pm_a121_14 rfl ?_
  show pm_E _ _ _ 16 [(0, .ref (pl 203)), (1, .int (iI x)), (2, .int (iI y)), (3, .int (iI q)), (4, .int (iI (rt x))), (5, .int (iI (rt y)))] [.int (iI (rt x))] _ _ _ _
  refine pm_e_sim pm_a121_16 rfl ?_
  show pm_E _ _ _ 18 [(0, .ref (pl 203)), (1, .int (iI x)), (2, .int (iI y)), (3, .int (iI q)), (4, .int (iI (rt x))), (5, .int (iI (rt y)))] [.int (iI (rt y)), .int (iI (rt x))] _ _ _ _
  refine pm_c_ne (t := 23) pm_a121_18 rfl ⟨by omega, by omega⟩ ⟨by omega, by omega⟩ (fun h_1 => ?_) (fun h_1 => ?_)
  · skip
    show pm_E _ _ _ 23 [(0, .ref (pl 203)), (1, .int (iI x)), (2, .int (iI y)), (3, .int (iI q)), (4, .int (iI (rt x))), (5, .int (iI (rt y)))] [] _ _ _ _
    refine pm_e_sim pm_a121_23 rfl ?_
    show pm_E _ _ _ 24 [(0, .ref (pl 203)), (1, .int (iI x)), (2, .int (iI y)), (3, .int (iI q)), (4, .int (iI (rt x))), (5, .int (iI (rt y)))] [.ref (pl 203)] _ _ _ _
    refine pm_e_sim pm_a121_24 rfl ?_
    show pm_E _ _ _ 26 [(0, .ref (pl 203)), (1, .int (iI x)), (2, .int (iI y)), (3, .int (iI q)), (4, .int (iI (rt x))), (5, .int (iI (rt y)))] [.int (iI (rt x)), .ref (pl 203)] _ _ _ _
    refine pm_i_callv (k := (pl 203)) (T2 := pm_mm124) pm_a121_26 rfl rfl rfl (cg_203 hW h203) ⟨Nat.le_of_ble_eq_true rfl, Nat.le_of_ble_eq_true rfl, rfl, by decide +kernel⟩ ?_
    show pm_E none _ _ 0 [(0, .ref (pl 203)), (1, .int (iI (rt x)))] [] _ _ _ _
    have fh_2 := hFr (rt x) (by omega) (by omega)
    refine C_zisArrow hW h203 (by omega) (by omega) ⟨by show -2147483648 ≤ a 9 (rt x); omega, by show a 9 (rt x) < 2147483648; omega⟩ (fun h_2 => ?_) (fun h_2 => ?_)
    · skip
      replace h_2 : a 9 (rt x) ≠ -1 := h_2
      show pm_E _ _ _ 29 [(0, .ref (pl 203)), (1, .int (iI x)), (2, .int (iI y)), (3, .int (iI q)), (4, .int (iI (rt x))), (5, .int (iI (rt y)))] [.int (iI 1)] _ _ _ _
      refine pm_e_iff pm_a121_29 rfl (by decide +kernel) ?_
      show pm_E _ _ _ 32 [(0, .ref (pl 203)), (1, .int (iI x)), (2, .int (iI y)), (3, .int (iI q)), (4, .int (iI (rt x))), (5, .int (iI (rt y)))] [] _ _ _ _
      refine pm_e_sim pm_a121_32 rfl ?_
      show pm_E _ _ _ 33 [(0, .ref (pl 203)), (1, .int (iI x)), (2, .int (iI y)), (3, .int (iI q)), (4, .int (iI (rt x))), (5, .int (iI (rt y)))] [.ref (pl 203)] _ _ _ _
      refine pm_e_sim pm_a121_33 rfl ?_
      show pm_E _ _ _ 35 [(0, .ref (pl 203)), (1, .int (iI x)), (2, .int (iI y)), (3, .int (iI q)), (4, .int (iI (rt x))), (5, .int (iI (rt y)))] [.int (iI (rt y)), .ref (pl 203)] _ _ _ _
      refine pm_i_callv (k := (pl 203)) (T2 := pm_mm124) pm_a121_35 rfl rfl rfl (cg_203 hW h203) ⟨Nat.le_of_ble_eq_true rfl, Nat.le_of_ble_eq_true rfl, rfl, by decide +kernel⟩ ?_
      show pm_E none _ _ 0 [(0, .ref (pl 203)), (1, .int (iI (rt y)))] [] _ _ _ _
      have fh_3 := hFr (rt y) (by omega) (by omega)
      refine C_zisArrow hW h203 (by omega) (by omega) ⟨by show -2147483648 ≤ a 9 (rt y); omega, by show a 9 (rt y) < 2147483648; omega⟩ (fun h_3 => ?_) (fun h_3 => ?_)
      · skip
        replace h_3 : a 9 (rt y) ≠ -1 := h_3
        show pm_E _ _ _ 38 [(0, .ref (pl 203)), (1, .int (iI x)), (2, .int (iI y)), (3, .int (iI q)), (4, .int (iI (rt x))), (5, .int (iI (rt y)))] [.int (iI 1)] _ _ _ _
        refine pm_e_iff pm_a121_38 rfl (by decide +kernel) ?_
        show pm_E _ _ _ 41 [(0, .ref (pl 203)), (1, .int (iI x)), (2, .int (iI y)), (3, .int (iI q)), (4, .int (iI (rt x))), (5, .int (iI (rt y)))] [] _ _ _ _
        refine pm_e_sim pm_a121_41 rfl ?_
        show pm_E _ _ _ 42 [(0, .ref (pl 203)), (1, .int (iI x)), (2, .int (iI y)), (3, .int (iI q)), (4, .int (iI (rt x))), (5, .int (iI (rt y)))] [.ref (pl 203)] _ _ _ _
        refine pm_i_get pm_a121_42 rfl (cg_203 hW h203) rfl ?_
        show pm_E _ _ _ 45 [(0, .ref (pl 203)), (1, .int (iI x)), (2, .int (iI y)), (3, .int (iI q)), (4, .int (iI (rt x))), (5, .int (iI (rt y)))] [.ref (pl 206)] _ _ _ _
        refine pm_e_sim pm_a121_45 rfl ?_
        show pm_E _ _ _ 47 [(0, .ref (pl 203)), (1, .int (iI x)), (2, .int (iI y)), (3, .int (iI q)), (4, .int (iI (rt x))), (5, .int (iI (rt y)))] [.int (iI (rt x)), .ref (pl 206)] _ _ _ _
        refine pm_e_sim pm_a121_47 rfl ?_
        show pm_E _ _ _ 49 [(0, .ref (pl 203)), (1, .int (iI x)), (2, .int (iI y)), (3, .int (iI q)), (4, .int (iI (rt x))), (5, .int (iI (rt y)))] [.int (iI (rt y)), .int (iI (rt x)), .ref (pl 206)] _ _ _ _
        refine pm_e_call (T2 := pm_mm114) pm_a121_49 rfl rfl rfl rfl rfl rfl rfl rfl rfl ?_
        show pm_E none _ _ 0 [(0, .ref (pl 206)), (1, .int (iI (rt x))), (2, .int (iI (rt y)))] [] _ _ _ _
        refine C_zset_206 hW h203 (by omega) (by omega) ?_
        show pm_E _ _ _ 52 [(0, .ref (pl 203)), (1, .int (iI x)), (2, .int (iI y)), (3, .int (iI q)), (4, .int (iI (rt x))), (5, .int (iI (rt y)))] [] _ _ _ _
        refine pm_e_sim pm_a121_52 rfl ?_
        show pm_E _ _ _ 53 [(0, .ref (pl 203)), (1, .int (iI x)), (2, .int (iI y)), (3, .int (iI q)), (4, .int (iI (rt x))), (5, .int (iI (rt y)))] [.ref (pl 203)] _ _ _ _
        refine pm_e_sim pm_a121_53 rfl ?_
        show pm_E _ _ _ 55 [(0, .ref (pl 203)), (1, .int (iI x)), (2, .int (iI y)), (3, .int (iI q)), (4, .int (iI (rt x))), (5, .int (iI (rt y)))] [.int (iI (rt x)), .ref (pl 203)] _ _ _ _
        refine pm_e_sim pm_a121_55 rfl ?_
        show pm_E _ _ _ 56 [(0, .ref (pl 203)), (1, .int (iI x)), (2, .int (iI y)), (3, .int (iI q)), (4, .int (iI (rt x))), (5, .int (iI (rt y)))] [.int (iI q), .int (iI (rt x)), .ref (pl 203)] _ _ _ _
        refine pm_i_callv (k := (pl 203)) (T2 := pm_mm125) pm_a121_56 rfl rfl rfl (cg_203 hW h203) ⟨Nat.le_of_ble_eq_true rfl, Nat.le_of_ble_eq_true rfl, rfl, by decide +kernel⟩ ?_
        show pm_E none _ _ 0 [(0, .ref (pl 203)), (1, .int (iI (rt x))), (2, .int (iI q))] [] _ _ _ _
        have hy9 : lk2 (rt y) = rt y := (hL2.1 y hy.1 hy.2).2.2.2
        have cl9 := cnr_lt (lk := lk2) (g := rt y) hy9 (n := (s 20).toNat) (by omega) (by omega)
        refine C_zenqueue hW h203 (by omega) (by omega) ?_
        show pm_E _ _ _ 59 [(0, .ref (pl 203)), (1, .int (iI x)), (2, .int (iI y)), (3, .int (iI q)), (4, .int (iI (rt x))), (5, .int (iI (rt y)))] [.int (iI (q + 1))] _ _ _ _
        refine pm_e_ret pm_a121_59 rfl rfl rfl rfl rfl rfl rfl rfl ?_
        have hP9 : ∀ j, JQ P (updI (a 12) q (rt x)) q (q + 1) j → (0 ≤ j ∧ j < s 20) ∧ a 9 j ≠ -1 := fun j z => by
          rcases z with z | ⟨k9, k1, k2, k3⟩
          · exact hJ.2.1.2.2.2.1 j z
          · rw [k3, show k9 = q by omega, updI_s]; exact ⟨⟨by omega, by omega⟩, by omega⟩
        obtain ⟨rt', j1, j2, j3⟩ := JI_link (P' := JQ P (updI (a 12) q (rt x)) q (q + 1)) (g := rt x) (y := rt y) (JI_lk hJ hL2) hx hy (Or.inl ⟨rfl, rfl⟩) (by omega) (fun _ => ⟨by omega, Or.inr ⟨q, by omega, by omega, (updI_s _ _ _).symm⟩⟩) hW1 hW2 hxy (fun j z => Or.inl z) hP9
        exact k _ rt' (q + 1) (fun j h11 h12 => by simp [updA, h11, h12]) j1 (by omega) (fun j z y9 => by show updI (a 12) q (rt x) j = a 12 j; rw [updI_n _ _ (by omega)]) (by show q + 1 ≤ cnr (updI lk2 (rt x) (rt y)) _; omega)
      · skip
        replace h_3 : a 9 (rt y) = -1 := h_3
        show pm_E _ _ _ 38 [(0, .ref (pl 203)), (1, .int (iI x)), (2, .int (iI y)), (3, .int (iI q)), (4, .int (iI (rt x))), (5, .int (iI (rt y)))] [.int (iI 0)] _ _ _ _
        refine pm_e_ift pm_a121_38 rfl (by decide +kernel) ?_
        show pm_E _ _ _ 60 [(0, .ref (pl 203)), (1, .int (iI x)), (2, .int (iI y)), (3, .int (iI q)), (4, .int (iI (rt x))), (5, .int (iI (rt y)))] [] _ _ _ _
        refine pm_e_sim pm_a121_60 rfl ?_
        show pm_E _ _ _ 61 [(0, .ref (pl 203)), (1, .int (iI x)), (2, .int (iI y)), (3, .int (iI q)), (4, .int (iI (rt x))), (5, .int (iI (rt y)))] [.ref (pl 203)] _ _ _ _
        refine pm_e_sim pm_a121_61 rfl ?_
        show pm_E _ _ _ 63 [(0, .ref (pl 203)), (1, .int (iI x)), (2, .int (iI y)), (3, .int (iI q)), (4, .int (iI (rt x))), (5, .int (iI (rt y)))] [.int (iI (rt x)), .ref (pl 203)] _ _ _ _
        refine pm_i_callv (k := (pl 203)) (T2 := pm_mm124) pm_a121_63 rfl rfl rfl (cg_203 hW h203) ⟨Nat.le_of_ble_eq_true rfl, Nat.le_of_ble_eq_true rfl, rfl, by decide +kernel⟩ ?_
        show pm_E none _ _ 0 [(0, .ref (pl 203)), (1, .int (iI (rt x)))] [] _ _ _ _
        have fh_4 := hFr (rt x) (by omega) (by omega)
        refine C_zisArrow hW h203 (by omega) (by omega) ⟨by show -2147483648 ≤ a 9 (rt x); omega, by show a 9 (rt x) < 2147483648; omega⟩ (fun h_4 => ?_) (fun h_4 => ?_)
        · skip
          replace h_4 : a 9 (rt x) ≠ -1 := h_4
          show pm_E _ _ _ 66 [(0, .ref (pl 203)), (1, .int (iI x)), (2, .int (iI y)), (3, .int (iI q)), (4, .int (iI (rt x))), (5, .int (iI (rt y)))] [.int (iI 1)] _ _ _ _
          refine pm_e_iff pm_a121_66 rfl (by decide +kernel) ?_
          show pm_E _ _ _ 69 [(0, .ref (pl 203)), (1, .int (iI x)), (2, .int (iI y)), (3, .int (iI q)), (4, .int (iI (rt x))), (5, .int (iI (rt y)))] [] _ _ _ _
          refine pm_e_sim pm_a121_69 rfl ?_
          show pm_E _ _ _ 70 [(0, .ref (pl 203)), (1, .int (iI x)), (2, .int (iI y)), (3, .int (iI q)), (4, .int (iI (rt x))), (5, .int (iI (rt y)))] [.ref (pl 203)] _ _ _ _
          refine pm_i_get pm_a121_70 rfl (cg_203 hW h203) rfl ?_
          show pm_E _ _ _ 73 [(0, .ref (pl 203)), (1, .int (iI x)), (2, .int (iI y)), (3, .int (iI q)), (4, .int (iI (rt x))), (5, .int (iI (rt y)))] [.ref (pl 206)] _ _ _ _
          refine pm_e_sim pm_a121_73 rfl ?_
          show pm_E _ _ _ 75 [(0, .ref (pl 203)), (1, .int (iI x)), (2, .int (iI y)), (3, .int (iI q)), (4, .int (iI (rt x))), (5, .int (iI (rt y)))] [.int (iI (rt y)), .ref (pl 206)] _ _ _ _
          refine pm_e_sim pm_a121_75 rfl ?_
          show pm_E _ _ _ 77 [(0, .ref (pl 203)), (1, .int (iI x)), (2, .int (iI y)), (3, .int (iI q)), (4, .int (iI (rt x))), (5, .int (iI (rt y)))] [.int (iI (rt x)), .int (iI (rt y)), .ref (pl 206)] _ _ _ _
          refine pm_e_call (T2 := pm_mm114) pm_a121_77 rfl rfl rfl rfl rfl rfl rfl rfl rfl ?_
          show pm_E none _ _ 0 [(0, .ref (pl 206)), (1, .int (iI (rt y))), (2, .int (iI (rt x)))] [] _ _ _ _
          refine C_zset_206 hW h203 (by omega) (by omega) ?_
          show pm_E _ _ _ 80 [(0, .ref (pl 203)), (1, .int (iI x)), (2, .int (iI y)), (3, .int (iI q)), (4, .int (iI (rt x))), (5, .int (iI (rt y)))] [] _ _ _ _
          refine pm_e_goto pm_a121_80 rfl ?_
          show pm_E _ _ _ 94 [(0, .ref (pl 203)), (1, .int (iI x)), (2, .int (iI y)), (3, .int (iI q)), (4, .int (iI (rt x))), (5, .int (iI (rt y)))] [] _ _ _ _
          refine pm_e_sim pm_a121_94 rfl ?_
          show pm_E _ _ _ 95 [(0, .ref (pl 203)), (1, .int (iI x)), (2, .int (iI y)), (3, .int (iI q)), (4, .int (iI (rt x))), (5, .int (iI (rt y)))] [.int (iI q)] _ _ _ _
          refine pm_e_ret pm_a121_95 rfl rfl rfl rfl rfl rfl rfl rfl ?_
          have hP9 : ∀ j, JQ P (a 12) q q j → (0 ≤ j ∧ j < s 20) ∧ a 9 j ≠ -1 := fun j z => by
            rcases z with z | ⟨k9, k1, k2, k3⟩
            · exact hJ.2.1.2.2.2.1 j z
            · omega
          obtain ⟨rt', j1, j2, j3⟩ := JI_link (P' := JQ P (a 12) q q) (g := rt y) (y := rt x) (JI_lk hJ hL2) hx hy (Or.inr ⟨rfl, rfl⟩) (by omega) (fun z => absurd z (by omega)) hW1 hW2 hxy (fun j z => Or.inl z) hP9
          exact k _ rt' q (fun j h11 h12 => by simp [updA, h11, h12]) j1 (by omega) (fun j z y9 => rfl) (by show q ≤ cnr (updI lk2 (rt y) (rt x)) _; omega)
        · skip
          replace h_4 : a 9 (rt x) = -1 := h_4
          show pm_E _ _ _ 66 [(0, .ref (pl 203)), (1, .int (iI x)), (2, .int (iI y)), (3, .int (iI q)), (4, .int (iI (rt x))), (5, .int (iI (rt y)))] [.int (iI 0)] _ _ _ _
          refine pm_e_ift pm_a121_66 rfl (by decide +kernel) ?_
          show pm_E _ _ _ 83 [(0, .ref (pl 203)), (1, .int (iI x)), (2, .int (iI y)), (3, .int (iI q)), (4, .int (iI (rt x))), (5, .int (iI (rt y)))] [] _ _ _ _
          refine pm_e_sim pm_a121_83 rfl ?_
          show pm_E _ _ _ 84 [(0, .ref (pl 203)), (1, .int (iI x)), (2, .int (iI y)), (3, .int (iI q)), (4, .int (iI (rt x))), (5, .int (iI (rt y)))] [.ref (pl 203)] _ _ _ _
          refine pm_i_get pm_a121_84 rfl (cg_203 hW h203) rfl ?_
          show pm_E _ _ _ 87 [(0, .ref (pl 203)), (1, .int (iI x)), (2, .int (iI y)), (3, .int (iI q)), (4, .int (iI (rt x))), (5, .int (iI (rt y)))] [.ref (pl 206)] _ _ _ _
          refine pm_e_sim pm_a121_87 rfl ?_
          show pm_E _ _ _ 89 [(0, .ref (pl 203)), (1, .int (iI x)), (2, .int (iI y)), (3, .int (iI q)), (4, .int (iI (rt x))), (5, .int (iI (rt y)))] [.int (iI (rt x)), .ref (pl 206)] _ _ _ _
          refine pm_e_sim pm_a121_89 rfl ?_
          show pm_E _ _ _ 91 [(0, .ref (pl 203)), (1, .int (iI x)), (2, .int (iI y)), (3, .int (iI q)), (4, .int (iI (rt x))), (5, .int (iI (rt y)))] [.int (iI (rt y)), .int (iI (rt x)), .ref (pl 206)] _ _ _ _
          refine pm_e_call (T2 := pm_mm114) pm_a121_91 rfl rfl rfl rfl rfl rfl rfl rfl rfl ?_
          show pm_E none _ _ 0 [(0, .ref (pl 206)), (1, .int (iI (rt x))), (2, .int (iI (rt y)))] [] _ _ _ _
          refine C_zset_206 hW h203 (by omega) (by omega) ?_
          show pm_E _ _ _ 94 [(0, .ref (pl 203)), (1, .int (iI x)), (2, .int (iI y)), (3, .int (iI q)), (4, .int (iI (rt x))), (5, .int (iI (rt y)))] [] _ _ _ _
          refine pm_e_sim pm_a121_94 rfl ?_
          show pm_E _ _ _ 95 [(0, .ref (pl 203)), (1, .int (iI x)), (2, .int (iI y)), (3, .int (iI q)), (4, .int (iI (rt x))), (5, .int (iI (rt y)))] [.int (iI q)] _ _ _ _
          refine pm_e_ret pm_a121_95 rfl rfl rfl rfl rfl rfl rfl rfl ?_
          have hP9 : ∀ j, JQ P (a 12) q q j → (0 ≤ j ∧ j < s 20) ∧ a 9 j ≠ -1 := fun j z => by
            rcases z with z | ⟨k9, k1, k2, k3⟩
            · exact hJ.2.1.2.2.2.1 j z
            · omega
          obtain ⟨rt', j1, j2, j3⟩ := JI_link (P' := JQ P (a 12) q q) (g := rt x) (y := rt y) (JI_lk hJ hL2) hx hy (Or.inl ⟨rfl, rfl⟩) (by omega) (fun z => absurd z (by omega)) hW1 hW2 hxy (fun j z => Or.inl z) hP9
          exact k _ rt' q (fun j h11 h12 => by simp [updA, h11, h12]) j1 (by omega) (fun j z y9 => rfl) (by show q ≤ cnr (updI lk2 (rt x) (rt y)) _; omega)
    · skip
      replace h_2 : a 9 (rt x) = -1 := h_2
      show pm_E _ _ _ 29 [(0, .ref (pl 203)), (1, .int (iI x)), (2, .int (iI y)), (3, .int (iI q)), (4, .int (iI (rt x))), (5, .int (iI (rt y)))] [.int (iI 0)] _ _ _ _
      refine pm_e_ift pm_a121_29 rfl (by decide +kernel) ?_
      show pm_E _ _ _ 60 [(0, .ref (pl 203)), (1, .int (iI x)), (2, .int (iI y)), (3, .int (iI q)), (4, .int (iI (rt x))), (5, .int (iI (rt y)))] [] _ _ _ _
      refine pm_e_sim pm_a121_60 rfl ?_
      show pm_E _ _ _ 61 [(0, .ref (pl 203)), (1, .int (iI x)), (2, .int (iI y)), (3, .int (iI q)), (4, .int (iI (rt x))), (5, .int (iI (rt y)))] [.ref (pl 203)] _ _ _ _
      refine pm_e_sim pm_a121_61 rfl ?_
      show pm_E _ _ _ 63 [(0, .ref (pl 203)), (1, .int (iI x)), (2, .int (iI y)), (3, .int (iI q)), (4, .int (iI (rt x))), (5, .int (iI (rt y)))] [.int (iI (rt x)), .ref (pl 203)] _ _ _ _
      refine pm_i_callv (k := (pl 203)) (T2 := pm_mm124) pm_a121_63 rfl rfl rfl (cg_203 hW h203) ⟨Nat.le_of_ble_eq_true rfl, Nat.le_of_ble_eq_true rfl, rfl, by decide +kernel⟩ ?_
      show pm_E none _ _ 0 [(0, .ref (pl 203)), (1, .int (iI (rt x)))] [] _ _ _ _
      have fh_5 := hFr (rt x) (by omega) (by omega)
      refine C_zisArrow hW h203 (by omega) (by omega) ⟨by show -2147483648 ≤ a 9 (rt x); omega, by show a 9 (rt x) < 2147483648; omega⟩ (fun h_5 => ?_) (fun h_5 => ?_)
      · skip
        replace h_5 : a 9 (rt x) ≠ -1 := h_5
        show pm_E _ _ _ 66 [(0, .ref (pl 203)), (1, .int (iI x)), (2, .int (iI y)), (3, .int (iI q)), (4, .int (iI (rt x))), (5, .int (iI (rt y)))] [.int (iI 1)] _ _ _ _
        refine pm_e_iff pm_a121_66 rfl (by decide +kernel) ?_
        show pm_E _ _ _ 69 [(0, .ref (pl 203)), (1, .int (iI x)), (2, .int (iI y)), (3, .int (iI q)), (4, .int (iI (rt x))), (5, .int (iI (rt y)))] [] _ _ _ _
        refine pm_e_sim pm_a121_69 rfl ?_
        show pm_E _ _ _ 70 [(0, .ref (pl 203)), (1, .int (iI x)), (2, .int (iI y)), (3, .int (iI q)), (4, .int (iI (rt x))), (5, .int (iI (rt y)))] [.ref (pl 203)] _ _ _ _
        refine pm_i_get pm_a121_70 rfl (cg_203 hW h203) rfl ?_
        show pm_E _ _ _ 73 [(0, .ref (pl 203)), (1, .int (iI x)), (2, .int (iI y)), (3, .int (iI q)), (4, .int (iI (rt x))), (5, .int (iI (rt y)))] [.ref (pl 206)] _ _ _ _
        refine pm_e_sim pm_a121_73 rfl ?_
        show pm_E _ _ _ 75 [(0, .ref (pl 203)), (1, .int (iI x)), (2, .int (iI y)), (3, .int (iI q)), (4, .int (iI (rt x))), (5, .int (iI (rt y)))] [.int (iI (rt y)), .ref (pl 206)] _ _ _ _
        refine pm_e_sim pm_a121_75 rfl ?_
        show pm_E _ _ _ 77 [(0, .ref (pl 203)), (1, .int (iI x)), (2, .int (iI y)), (3, .int (iI q)), (4, .int (iI (rt x))), (5, .int (iI (rt y)))] [.int (iI (rt x)), .int (iI (rt y)), .ref (pl 206)] _ _ _ _
        refine pm_e_call (T2 := pm_mm114) pm_a121_77 rfl rfl rfl rfl rfl rfl rfl rfl rfl ?_
        show pm_E none _ _ 0 [(0, .ref (pl 206)), (1, .int (iI (rt y))), (2, .int (iI (rt x)))] [] _ _ _ _
        refine C_zset_206 hW h203 (by omega) (by omega) ?_
        show pm_E _ _ _ 80 [(0, .ref (pl 203)), (1, .int (iI x)), (2, .int (iI y)), (3, .int (iI q)), (4, .int (iI (rt x))), (5, .int (iI (rt y)))] [] _ _ _ _
        refine pm_e_goto pm_a121_80 rfl ?_
        show pm_E _ _ _ 94 [(0, .ref (pl 203)), (1, .int (iI x)), (2, .int (iI y)), (3, .int (iI q)), (4, .int (iI (rt x))), (5, .int (iI (rt y)))] [] _ _ _ _
        refine pm_e_sim pm_a121_94 rfl ?_
        show pm_E _ _ _ 95 [(0, .ref (pl 203)), (1, .int (iI x)), (2, .int (iI y)), (3, .int (iI q)), (4, .int (iI (rt x))), (5, .int (iI (rt y)))] [.int (iI q)] _ _ _ _
        refine pm_e_ret pm_a121_95 rfl rfl rfl rfl rfl rfl rfl rfl ?_
        have hP9 : ∀ j, JQ P (a 12) q q j → (0 ≤ j ∧ j < s 20) ∧ a 9 j ≠ -1 := fun j z => by
          rcases z with z | ⟨k9, k1, k2, k3⟩
          · exact hJ.2.1.2.2.2.1 j z
          · omega
        obtain ⟨rt', j1, j2, j3⟩ := JI_link (P' := JQ P (a 12) q q) (g := rt y) (y := rt x) (JI_lk hJ hL2) hx hy (Or.inr ⟨rfl, rfl⟩) (by omega) (fun z => absurd z (by omega)) hW1 hW2 hxy (fun j z => Or.inl z) hP9
        exact k _ rt' q (fun j h11 h12 => by simp [updA, h11, h12]) j1 (by omega) (fun j z y9 => rfl) (by show q ≤ cnr (updI lk2 (rt y) (rt x)) _; omega)
      · skip
        replace h_5 : a 9 (rt x) = -1 := h_5
        show pm_E _ _ _ 66 [(0, .ref (pl 203)), (1, .int (iI x)), (2, .int (iI y)), (3, .int (iI q)), (4, .int (iI (rt x))), (5, .int (iI (rt y)))] [.int (iI 0)] _ _ _ _
        refine pm_e_ift pm_a121_66 rfl (by decide +kernel) ?_
        show pm_E _ _ _ 83 [(0, .ref (pl 203)), (1, .int (iI x)), (2, .int (iI y)), (3, .int (iI q)), (4, .int (iI (rt x))), (5, .int (iI (rt y)))] [] _ _ _ _
        refine pm_e_sim pm_a121_83 rfl ?_
        show pm_E _ _ _ 84 [(0, .ref (pl 203)), (1, .int (iI x)), (2, .int (iI y)), (3, .int (iI q)), (4, .int (iI (rt x))), (5, .int (iI (rt y)))] [.ref (pl 203)] _ _ _ _
        refine pm_i_get pm_a121_84 rfl (cg_203 hW h203) rfl ?_
        show pm_E _ _ _ 87 [(0, .ref (pl 203)), (1, .int (iI x)), (2, .int (iI y)), (3, .int (iI q)), (4, .int (iI (rt x))), (5, .int (iI (rt y)))] [.ref (pl 206)] _ _ _ _
        refine pm_e_sim pm_a121_87 rfl ?_
        show pm_E _ _ _ 89 [(0, .ref (pl 203)), (1, .int (iI x)), (2, .int (iI y)), (3, .int (iI q)), (4, .int (iI (rt x))), (5, .int (iI (rt y)))] [.int (iI (rt x)), .ref (pl 206)] _ _ _ _
        refine pm_e_sim pm_a121_89 rfl ?_
        show pm_E _ _ _ 91 [(0, .ref (pl 203)), (1, .int (iI x)), (2, .int (iI y)), (3, .int (iI q)), (4, .int (iI (rt x))), (5, .int (iI (rt y)))] [.int (iI (rt y)), .int (iI (rt x)), .ref (pl 206)] _ _ _ _
        refine pm_e_call (T2 := pm_mm114) pm_a121_91 rfl rfl rfl rfl rfl rfl rfl rfl rfl ?_
        show pm_E none _ _ 0 [(0, .ref (pl 206)), (1, .int (iI (rt x))), (2, .int (iI (rt y)))] [] _ _ _ _
        refine C_zset_206 hW h203 (by omega) (by omega) ?_
        show pm_E _ _ _ 94 [(0, .ref (pl 203)), (1, .int (iI x)), (2, .int (iI y)), (3, .int (iI q)), (4, .int (iI (rt x))), (5, .int (iI (rt y)))] [] _ _ _ _
        refine pm_e_sim pm_a121_94 rfl ?_
        show pm_E _ _ _ 95 [(0, .ref (pl 203)), (1, .int (iI x)), (2, .int (iI y)), (3, .int (iI q)), (4, .int (iI (rt x))), (5, .int (iI (rt y)))] [.int (iI q)] _ _ _ _
        refine pm_e_ret pm_a121_95 rfl rfl rfl rfl rfl rfl rfl rfl ?_
        have hP9 : ∀ j, JQ P (a 12) q q j → (0 ≤ j ∧ j < s 20) ∧ a 9 j ≠ -1 := fun j z => by
          rcases z with z | ⟨k9, k1, k2, k3⟩
          · exact hJ.2.1.2.2.2.1 j z
          · omega
        obtain ⟨rt', j1, j2, j3⟩ := JI_link (P' := JQ P (a 12) q q) (g := rt x) (y := rt y) (JI_lk hJ hL2) hx hy (Or.inl ⟨rfl, rfl⟩) (by omega) (fun z => absurd z (by omega)) hW1 hW2 hxy (fun j z => Or.inl z) hP9
        exact k _ rt' q (fun j h11 h12 => by simp [updA, h11, h12]) j1 (by omega) (fun j z y9 => rfl) (by show q ≤ cnr (updI lk2 (rt x) (rt y)) _; omega)
  · skip
    show pm_E _ _ _ 21 [(0, .ref (pl 203)), (1, .int (iI x)), (2, .int (iI y)), (3, .int (iI q)), (4, .int (iI (rt x))), (5, .int (iI (rt y)))] [] _ _ _ _
    refine pm_e_sim pm_a121_21 rfl ?_
    show pm_E _ _ _ 22 [(0, .ref (pl 203)), (1, .int (iI x)), (2, .int (iI y)), (3, .int (iI q)), (4, .int (iI (rt x))), (5, .int (iI (rt y)))] [.int (iI q)] _ _ _ _
    refine pm_e_ret pm_a121_22 rfl rfl rfl rfl rfl rfl rfl rfl ?_
    exact k _ rt q (fun j h11 h12 => by simp [updA, h11, h12]) (JI_P (JI_skip (JI_lk hJ hL2) hx hy (by omega) hW1 hW2) (fun j z => Or.inl z) (fun j z => z.elim id (fun ⟨k9, k1, k2, k3⟩ => by omega))) (by omega) (fun j z y9 => rfl) (by show q ≤ cnr lk2 _; omega)
