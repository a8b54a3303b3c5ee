/-! THE CLASS: Typer, exactly: the type told; what typed answers -/
set_option maxHeartbeats 4000000 in
set_option maxRecDepth 100000 in
theorem C_zawait2 {d n : Nat} {kd pl : Nat → Nat} {s : Nat → Int} {a : Nat → Int → Int} {c : Nat → cdt} {M : List va_E} {Q : Option Value → List va_E → Nat → Nat → Prop} {x : Int} (hW : wf n kd pl) (h203 : al n kd pl 203) (h0 : 0 ≤ s 21) (h1 : s 21 ≤ 501) (k : ∀ s' a', (s 21 < 501 → s' 21 = s 21 + 1 ∧ a' 15 = updI (a 15) (s 21) x) → (0 ≤ s' 21 ∧ s' 21 ≤ 501) → (∀ j, j ≠ 21 → s' j = s j) → (∀ j, j ≠ 15 → a' j = a j) → Q none (ch n kd pl s' a' c M) 0 0) : pm_E none d pm_mm115 0 [(0, .ref (pl 203)), (1, .int (iI x))] [] (ch n kd pl s a c M) 0 0 Q := by
  refine pm_e_sim pm_a115_0 rfl ?_
  show pm_E _ _ _ 1 [(0, .ref (pl 203)), (1, .int (iI x))] [.ref (pl 203)] _ _ _ _
  refine pm_i_get pm_a115_1 rfl (cg_203 hW h203) rfl ?_
  show pm_E _ _ _ 4 [(0, .ref (pl 203)), (1, .int (iI x))] [.int (iI (s 21))] _ _ _ _
  refine pm_i_lt (t := 39) pm_a115_4 rfl ⟨by omega, by omega⟩ (fun h_1 => ?_) (fun h_1 => ?_)
  · skip
    show pm_E _ _ _ 39 [(0, .ref (pl 203)), (1, .int (iI x))] [] _ _ _ _
    refine pm_e_ret pm_a115_39 rfl rfl rfl rfl rfl rfl rfl rfl ?_
    first
    | (exfalso; omega)
    | exact k s a (fun z => absurd z (by omega)) ⟨by omega, by omega⟩ (fun _ _ => rfl) (fun _ _ => rfl)
  · skip
    show pm_E _ _ _ 7 [(0, .ref (pl 203)), (1, .int (iI x))] [] _ _ _ _
    refine pm_e_sim pm_a115_7 rfl ?_
    show pm_E _ _ _ 8 [(0, .ref (pl 203)), (1, .int (iI x))] [.ref (pl 203)] _ _ _ _
    refine pm_i_get pm_a115_8 rfl (cg_203 hW h203) rfl ?_
    show pm_E _ _ _ 11 [(0, .ref (pl 203)), (1, .int (iI x))] [.int (iI (s 21))] _ _ _ _
    refine pm_e_sim pm_a115_11 rfl ?_
    show pm_E _ _ _ 12 [(0, .ref (pl 203)), (1, .int (iI x))] [.ref (pl 203), .int (iI (s 21))] _ _ _ _
    refine pm_i_get pm_a115_12 rfl (cg_203 hW h203) rfl ?_
    show pm_E _ _ _ 15 [(0, .ref (pl 203)), (1, .int (iI x))] [.ref (pl 210), .int (iI (s 21))] _ _ _ _
    refine pm_i_aln pm_a115_15 (cg_210 hW h203) ?_
    show pm_E _ _ _ 16 [(0, .ref (pl 203)), (1, .int (iI x))] [.int (iI 501), .int (iI (s 21))] _ _ _ _
    refine pm_c_ge (t := 39) pm_a115_16 rfl ⟨by omega, by omega⟩ ⟨by omega, by omega⟩ (fun h_2 => ?_) (fun h_2 => ?_)
    · skip
      show pm_E _ _ _ 39 [(0, .ref (pl 203)), (1, .int (iI x))] [] _ _ _ _
      refine pm_e_ret pm_a115_39 rfl rfl rfl rfl rfl rfl rfl rfl ?_
      first
      | (exfalso; omega)
      | exact k s a (fun z => absurd z (by omega)) ⟨by omega, by omega⟩ (fun _ _ => rfl) (fun _ _ => rfl)
    · skip
      show pm_E _ _ _ 19 [(0, .ref (pl 203)), (1, .int (iI x))] [] _ _ _ _
      refine pm_e_sim pm_a115_19 rfl ?_
      show pm_E _ _ _ 20 [(0, .ref (pl 203)), (1, .int (iI x))] [.ref (pl 203)] _ _ _ _
      refine pm_i_get pm_a115_20 rfl (cg_203 hW h203) rfl ?_
      show pm_E _ _ _ 23 [(0, .ref (pl 203)), (1, .int (iI x))] [.ref (pl 210)] _ _ _ _
      refine pm_e_sim pm_a115_23 rfl ?_
      show pm_E _ _ _ 24 [(0, .ref (pl 203)), (1, .int (iI x))] [.ref (pl 203), .ref (pl 210)] _ _ _ _
      refine pm_i_get pm_a115_24 rfl (cg_203 hW h203) rfl ?_
      show pm_E _ _ _ 27 [(0, .ref (pl 203)), (1, .int (iI x))] [.int (iI (s 21)), .ref (pl 210)] _ _ _ _
      refine pm_e_sim pm_a115_27 rfl ?_
      show pm_E _ _ _ 28 [(0, .ref (pl 203)), (1, .int (iI x))] [.int (iI x), .int (iI (s 21)), .ref (pl 210)] _ _ _ _
      refine pm_i_ast pm_a115_28 (cg_210 hW h203) (by omega) (by omega) ⟨by omega, by omega⟩ (ca_210 hW h203 _) ?_
      show pm_E _ _ _ 29 [(0, .ref (pl 203)), (1, .int (iI x))] [] _ _ _ _
      refine pm_e_sim pm_a115_29 rfl ?_
      show pm_E _ _ _ 30 [(0, .ref (pl 203)), (1, .int (iI x))] [.ref (pl 203)] _ _ _ _
      refine pm_e_sim pm_a115_30 rfl ?_
      show pm_E _ _ _ 31 [(0, .ref (pl 203)), (1, .int (iI x))] [.ref (pl 203), .ref (pl 203)] _ _ _ _
      refine pm_i_get pm_a115_31 rfl (cg_203 hW h203) rfl ?_
      show pm_E _ _ _ 34 [(0, .ref (pl 203)), (1, .int (iI x))] [.int (iI (s 21)), .ref (pl 203)] _ _ _ _
      refine pm_e_sim pm_a115_34 rfl ?_
      refine pm_e_top (y := iI 1) (by decide +kernel) ?_
      show pm_E _ _ _ 35 [(0, .ref (pl 203)), (1, .int (iI x))] [.int (iI 1), .int (iI (s 21)), .ref (pl 203)] _ _ _ _
      refine pm_e_sim pm_a115_35 rfl ?_
      refine pm_e_top (y := iI (s 21 + 1)) (iI_add _ _) ?_
      show pm_E _ _ _ 36 [(0, .ref (pl 203)), (1, .int (iI x))] [.int (iI (s 21 + 1)), .ref (pl 203)] _ _ _ _
      refine pm_i_put pm_a115_36 rfl (cg_203 hW h203) rfl (Nat.le_of_ble_eq_true rfl) (Or.inl rfl) (cw_21 hW h203 (s 21 + 1)) ?_
      show pm_E _ _ _ 39 [(0, .ref (pl 203)), (1, .int (iI x))] [] _ _ _ _
      refine pm_e_ret pm_a115_39 rfl rfl rfl rfl rfl rfl rfl rfl ?_
      exact k _ _ (fun _ => ⟨rfl, rfl⟩) ⟨by show 0 ≤ s 21 + 1; omega, by show s 21 + 1 ≤ 501; omega⟩ (fun j h => by simp [updS, h]) (fun j h => by simp [updA, h])
set_option maxHeartbeats 4000000 in
set_option maxRecDepth 100000 in
theorem C_ztell_l {d n : Nat} {kd pl : Nat → Nat} {M : List va_E} {Q : Option Value → List va_E → Nat → Nat → Prop} {s0 : Nat → Int} {c0 : Nat → cdt} {a0 : Nat → Int → Int} {rt : Int → Int} {U : Int → List Int} {T : List Int} {x : Int} (hW : wf n kd pl) (h203 : al n kd pl 203) (hK : s0 20 ≤ 2800) (hG : GC (s0 20) (a0 9) (a0 10) (a0 11) rt) (hU : ∀ x, 0 ≤ x → x < s0 20 → (a0 9 (rt x) = -1 → U x = [rt x + 1]) ∧ (a0 9 (rt x) ≠ -1 → U x = 0 :: (U (a0 9 (rt x)) ++ U (a0 10 (rt x)))) ∧ 1 ≤ (U x).length) : ∀ (f : Nat) (i m : Int) (s : Nat → Int) (a : Nat → Int → Int) (c : Nat → cdt) (l : List Int), 0 ≤ i → i ≤ 501 → 0 ≤ m → m ≤ i → (∀ j, j ≠ 21 → s j = s0 j) → (∀ j, j ≠ 11 → j ≠ 13 → j ≠ 15 → a j = a0 j) → (∀ j, j ≠ 4 → c j = c0 j) → LR (s0 20) (a 11) rt → md (c 4) (rm 4) l → (l.length : Int) = i → (0 ≤ s 21 ∧ s 21 ≤ 501) → (i ≤ 500 → LY (s0 20) (-1) 0 1 (a0 9) (a0 10) rt U T l (a 13) (a 15) m (s 21) ∧ s 21 ≤ 1 + i ∧ ∀ j, 0 ≤ j → j < s 21 → 0 ≤ a 15 j ∧ a 15 j < s0 20) → (i = 501 → 500 < T.length) → (∀ x, 0 ≤ x → x < s0 20 → 0 ≤ a 13 x ∧ a 13 x ≤ 1000) → (∀ (s : Nat → Int) (a : Nat → Int → Int) (c : Nat → cdt) (l : List Int), (∀ j, j ≠ 21 → s j = s0 j) → (∀ j, j ≠ 11 → j ≠ 13 → j ≠ 15 → a j = a0 j) → (∀ j, j ≠ 4 → c j = c0 j) → md (c 4) (rm 4) l → (0 ≤ s 21 ∧ s 21 ≤ 501) → ((l.length ≤ 500 ∧ l = T) ∨ (500 < l.length ∧ 500 < T.length)) → Q none (ch n kd pl s a c M) 0 0) → 502 - i < (f : Int) → pm_E none (d + 3) pm_mm135 25 [(0, .ref (pl 203)), (1, .int (iI x)), (2, .int (iI m)), (3, .int (iI i))] [] (ch n kd pl s a c M) 0 0 Q := by
  intro f
  induction f with
  | zero =>
    intro i m s a c l h0 h1 hm0 hm1 fS fA fC hL hmd hl hs21 hly hov hmk k hf
    exfalso; omega
  | succ f ih =>
    intro i m s a c l h0 h1 hm0 hm1 fS fA fC hL hmd hl hs21 hly hov hmk k hf
    have e20 := fS 20 (by omega)
    have rm4 : rm 4 = 500 := rfl
    have e9 : a 9 = a0 9 := fA 9 (by omega) (by omega) (by omega)
    have e10 : a 10 = a0 10 := fA 10 (by omega) (by omega) (by omega)
    have hR : ∀ k, 0 ≤ k → k < s0 20 → a 9 k ≠ -1 → (0 ≤ a 9 k ∧ a 9 k < s0 20) ∧ (0 ≤ a 10 k ∧ a 10 k < s0 20) := by rw [e9, e10]; exact (GI_rg hG.2).2
    have hr := hG.2.2.1
    have hK0 := hG.2.1
    have hFr : ∀ k, 0 ≤ k → k < s0 20 → a 9 k = -1 ∨ (0 ≤ a 9 k ∧ a 9 k < s0 20) := fun k z y => by
      by_cases c9 : a 9 k = -1
      · exact Or.inl c9
      · exact Or.inr (hR k z y c9).1
    have hUa := hU
    rw [← e9, ← e10] at hUa
    have ho4 := hmd.1
    obtain ⟨_, _, _, _⟩ := id ho4
    refine pm_e_sim pm_a135_25 rfl ?_
    show pm_E _ _ _ 26 [(0, .ref (pl 203)), (1, .int (iI x)), (2, .int (iI m)), (3, .int (iI i))] [.int (iI i)] _ _ _ _
    refine pm_e_sim pm_a135_26 rfl ?_
    refine pm_e_top (y := iI 500) (by decide +kernel) ?_
    show pm_E _ _ _ 29 [(0, .ref (pl 203)), (1, .int (iI x)), (2, .int (iI m)), (3, .int (iI i))] [.int (iI 500), .int (iI i)] _ _ _ _
    refine pm_c_gt (t := 152) pm_a135_29 rfl ⟨by omega, by omega⟩ ⟨by omega, by omega⟩ (fun h_1 => ?_) (fun h_1 => ?_)
    · skip
      show pm_E _ _ _ 152 [(0, .ref (pl 203)), (1, .int (iI x)), (2, .int (iI m)), (3, .int (iI i))] [] _ _ _ _
      refine pm_e_ret pm_a135_152 rfl rfl rfl rfl rfl rfl rfl rfl ?_
      refine k s a c l fS fA fC hmd hs21 ?_
      by_cases c9 : i ≤ 500
      · left
        have hl9 := (hly c9).1
        first
        | (rw [show s 21 = 0 by omega] at hl9; exact ⟨by omega, (LY_end hl9).symm⟩)
        | (exfalso; rcases hmd.2 with z | z <;> rw [rm4] at z <;> omega)
      · right; exact ⟨by omega, hov (by omega)⟩
    · skip
      show pm_E _ _ _ 32 [(0, .ref (pl 203)), (1, .int (iI x)), (2, .int (iI m)), (3, .int (iI i))] [] _ _ _ _
      refine pm_e_sim pm_a135_32 rfl ?_
      show pm_E _ _ _ 33 [(0, .ref (pl 203)), (1, .int (iI x)), (2, .int (iI m)), (3, .int (iI i))] [.ref (pl 203)] _ _ _ _
      refine pm_i_get pm_a135_33 rfl (cg_203 hW h203) rfl ?_
      show pm_E _ _ _ 36 [(0, .ref (pl 203)), (1, .int (iI x)), (2, .int (iI m)), (3, .int (iI i))] [.int (iI (s 21))] _ _ _ _
      refine pm_i_le (t := 152) pm_a135_36 rfl ⟨by omega, by omega⟩ (fun h_2 => ?_) (fun h_2 => ?_)
      · skip
        show pm_E _ _ _ 152 [(0, .ref (pl 203)), (1, .int (iI x)), (2, .int (iI m)), (3, .int (iI i))] [] _ _ _ _
        refine pm_e_ret pm_a135_152 rfl rfl rfl rfl rfl rfl rfl rfl ?_
        refine k s a c l fS fA fC hmd hs21 ?_
        by_cases c9 : i ≤ 500
        · left
          have hl9 := (hly c9).1
          first
          | (rw [show s 21 = 0 by omega] at hl9; exact ⟨by omega, (LY_end hl9).symm⟩)
          | (exfalso; rcases hmd.2 with z | z <;> rw [rm4] at z <;> omega)
        · right; exact ⟨by omega, hov (by omega)⟩
      · skip
        show pm_E _ _ _ 39 [(0, .ref (pl 203)), (1, .int (iI x)), (2, .int (iI m)), (3, .int (iI i))] [] _ _ _ _
        refine pm_e_sim pm_a135_39 rfl ?_
        show pm_E _ _ _ 40 [(0, .ref (pl 203)), (1, .int (iI x)), (2, .int (iI m)), (3, .int (iI i))] [.ref (pl 203)] _ _ _ _
        refine pm_i_get pm_a135_40 rfl (cg_203 hW h203) rfl ?_
        show pm_E _ _ _ 43 [(0, .ref (pl 203)), (1, .int (iI x)), (2, .int (iI m)), (3, .int (iI i))] [.ref (pl (60 + 2 * 4))] _ _ _ _
        refine pm_i_get pm_a135_43 rfl (cg_o (cj4 hW h203)) rfl ?_
        show pm_E _ _ _ 46 [(0, .ref (pl 203)), (1, .int (iI x)), (2, .int (iI m)), (3, .int (iI i))] [.int (iI ((c 4).2.1))] _ _ _ _
        refine pm_i_ne (t := 152) pm_a135_46 rfl ⟨by omega, by omega⟩ (fun h_3 => ?_) (fun h_3 => ?_)
        · skip
          show pm_E _ _ _ 152 [(0, .ref (pl 203)), (1, .int (iI x)), (2, .int (iI m)), (3, .int (iI i))] [] _ _ _ _
          refine pm_e_ret pm_a135_152 rfl rfl rfl rfl rfl rfl rfl rfl ?_
          refine k s a c l fS fA fC hmd hs21 ?_
          by_cases c9 : i ≤ 500
          · left
            have hl9 := (hly c9).1
            first
            | (rw [show s 21 = 0 by omega] at hl9; exact ⟨by omega, (LY_end hl9).symm⟩)
            | (exfalso; rcases hmd.2 with z | z <;> rw [rm4] at z <;> omega)
          · right; exact ⟨by omega, hov (by omega)⟩
        · skip
          show pm_E _ _ _ 49 [(0, .ref (pl 203)), (1, .int (iI x)), (2, .int (iI m)), (3, .int (iI i))] [] _ _ _ _
          refine pm_e_sim pm_a135_49 rfl ?_
          show pm_E _ _ _ 50 [(0, .ref (pl 203)), (1, .int (iI x)), (2, .int (iI m)), (3, .int (iI i))] [.ref (pl 203)] _ _ _ _
          refine pm_e_sim pm_a135_50 rfl ?_
          show pm_E _ _ _ 51 [(0, .ref (pl 203)), (1, .int (iI x)), (2, .int (iI m)), (3, .int (iI i))] [.ref (pl 203), .ref (pl 203)] _ _ _ _
          refine pm_i_callv (k := (pl 203)) (T2 := pm_mm116) pm_a135_51 rfl rfl rfl (cg_203 hW h203) ⟨Nat.le_of_ble_eq_true rfl, Nat.le_of_ble_eq_true rfl, rfl, by decide +kernel⟩ ?_
          show pm_E none _ _ 0 [(0, .ref (pl 203))] [] _ _ _ _
          obtain ⟨hL9, hw9, hwt9⟩ := hly (by omega)
          rw [← e9, ← e10] at hL9
          have hx9 := hwt9 (s 21 - 1) (by omega) (by omega)
          obtain ⟨u1, u2, u3⟩ := hUa (a 15 (s 21 - 1)) (by omega) (by omega)
          refine C_znext hW h203 (by omega) (by omega) ?_
          show pm_E _ _ _ 54 [(0, .ref (pl 203)), (1, .int (iI x)), (2, .int (iI m)), (3, .int (iI i))] [.int (iI (a 15 (s 21 - 1))), .ref (pl 203)] _ _ _ _
          refine pm_i_callv (k := (pl 203)) (T2 := pm_mm122) pm_a135_54 rfl rfl rfl (cg_203 hW h203) ⟨Nat.le_of_ble_eq_true rfl, Nat.le_of_ble_eq_true rfl, rfl, by decide +kernel⟩ ?_
          show pm_E none _ _ 0 [(0, .ref (pl 203)), (1, .int (iI (a 15 (s 21 - 1))))] [] _ _ _ _
          have r9 := hr (a 15 (s 21 - 1)) (by omega) (by omega)
          have m9 := hmk (rt (a 15 (s 21 - 1))) (by omega) (by omega)
          refine C_zrootOf (rt := rt) (s := updS s 21 (s 21 - 1)) hW h203 (by show s 20 ≤ 2800; omega) (by show LR (s 20) (a 11) rt; rw [e20]; exact hL) (by omega) (by show _ < s 20; omega) (fun lk1 hL1 _ => ?_)
          replace hL1 : LR (s 20) lk1 rt := hL1
          rw [e20] at hL1
          show pm_E _ _ _ 57 [(0, .ref (pl 203)), (1, .int (iI x)), (2, .int (iI m)), (3, .int (iI i))] [.int (iI (rt (a 15 (s 21 - 1))))] _ _ _ _
          refine pm_e_sim pm_a135_57 rfl ?_
          show pm_E _ _ _ 59 [(0, .ref (pl 203)), (1, .int (iI x)), (2, .int (iI m)), (3, .int (iI i)), (4, .int (iI (rt (a 15 (s 21 - 1)))))] [] _ _ _ _
          refine pm_e_sim pm_a135_59 rfl ?_
          show pm_E _ _ _ 60 [(0, .ref (pl 203)), (1, .int (iI x)), (2, .int (iI m)), (3, .int (iI i)), (4, .int (iI (rt (a 15 (s 21 - 1)))))] [.ref (pl 203)] _ _ _ _
          refine pm_e_sim pm_a135_60 rfl ?_
          show pm_E _ _ _ 62 [(0, .ref (pl 203)), (1, .int (iI x)), (2, .int (iI m)), (3, .int (iI i)), (4, .int (iI (rt (a 15 (s 21 - 1)))))] [.int (iI (rt (a 15 (s 21 - 1)))), .ref (pl 203)] _ _ _ _
          refine pm_i_callv (k := (pl 203)) (T2 := pm_mm124) pm_a135_62 rfl rfl rfl (cg_203 hW h203) ⟨Nat.le_of_ble_eq_true rfl, Nat.le_of_ble_eq_true rfl, rfl, by decide +kernel⟩ ?_
          show pm_E none _ _ 0 [(0, .ref (pl 203)), (1, .int (iI (rt (a 15 (s 21 - 1)))))] [] _ _ _ _
          have f9 := hFr (rt (a 15 (s 21 - 1))) (by omega) (by omega)
          refine C_zisArrow hW h203 (by omega) (by omega) ⟨by show -2147483648 ≤ a 9 (rt (a 15 (s 21 - 1))); omega, by show a 9 (rt (a 15 (s 21 - 1))) < 2147483648; omega⟩ (fun k9 => ?_) (fun k9 => ?_)
          · skip
            replace k9 : a 9 (rt (a 15 (s 21 - 1))) ≠ -1 := k9
            have g9 := hR (rt (a 15 (s 21 - 1))) (by omega) (by omega) k9
            show pm_E _ _ _ 65 [(0, .ref (pl 203)), (1, .int (iI x)), (2, .int (iI m)), (3, .int (iI i)), (4, .int (iI (rt (a 15 (s 21 - 1)))))] [.int (iI 1)] _ _ _ _
            refine pm_e_iff pm_a135_65 rfl (by decide +kernel) ?_
            show pm_E _ _ _ 68 [(0, .ref (pl 203)), (1, .int (iI x)), (2, .int (iI m)), (3, .int (iI i)), (4, .int (iI (rt (a 15 (s 21 - 1)))))] [] _ _ _ _
            refine pm_e_sim pm_a135_68 rfl ?_
            show pm_E _ _ _ 69 [(0, .ref (pl 203)), (1, .int (iI x)), (2, .int (iI m)), (3, .int (iI i)), (4, .int (iI (rt (a 15 (s 21 - 1)))))] [.ref (pl 203)] _ _ _ _
            refine pm_i_get pm_a135_69 rfl (cg_203 hW h203) rfl ?_
            show pm_E _ _ _ 72 [(0, .ref (pl 203)), (1, .int (iI x)), (2, .int (iI m)), (3, .int (iI i)), (4, .int (iI (rt (a 15 (s 21 - 1)))))] [.ref (pl (60 + 2 * 4))] _ _ _ _
            refine pm_e_sim pm_a135_72 rfl ?_
            refine pm_e_top (y := iI 0) (by decide +kernel) ?_
            show pm_E _ _ _ 73 [(0, .ref (pl 203)), (1, .int (iI x)), (2, .int (iI m)), (3, .int (iI i)), (4, .int (iI (rt (a 15 (s 21 - 1)))))] [.int (iI 0), .ref (pl (60 + 2 * 4))] _ _ _ _
            refine pm_i_callv (k := (pl (60 + 2 * 4))) (T2 := pm_mm40) pm_a135_73 rfl rfl rfl (cg_o (cj4 hW h203)) ⟨Nat.le_of_ble_eq_true rfl, Nat.le_of_ble_eq_true rfl, rfl, by decide +kernel⟩ ?_
            show pm_E none _ _ 0 [(0, .ref (pl (60 + 2 * 4))), (1, .int (iI 0))] [] _ _ _ _
            refine C_put hW (cj4 hW h203) hmd (by decide) (fun y1 g1 => ?_)
            show pm_E _ _ _ 76 [(0, .ref (pl 203)), (1, .int (iI x)), (2, .int (iI m)), (3, .int (iI i)), (4, .int (iI (rt (a 15 (s 21 - 1)))))] [] _ _ _ _
            refine pm_e_sim pm_a135_76 rfl ?_
            show pm_E _ _ _ 77 [(0, .ref (pl 203)), (1, .int (iI x)), (2, .int (iI m)), (3, .int (iI i)), (4, .int (iI (rt (a 15 (s 21 - 1)))))] [.ref (pl 203)] _ _ _ _
            refine pm_e_sim pm_a135_77 rfl ?_
            show pm_E _ _ _ 78 [(0, .ref (pl 203)), (1, .int (iI x)), (2, .int (iI m)), (3, .int (iI i)), (4, .int (iI (rt (a 15 (s 21 - 1)))))] [.ref (pl 203), .ref (pl 203)] _ _ _ _
            refine pm_i_get pm_a135_78 rfl (cg_203 hW h203) rfl ?_
            show pm_E _ _ _ 81 [(0, .ref (pl 203)), (1, .int (iI x)), (2, .int (iI m)), (3, .int (iI i)), (4, .int (iI (rt (a 15 (s 21 - 1)))))] [.ref (pl 205), .ref (pl 203)] _ _ _ _
            refine pm_e_sim pm_a135_81 rfl ?_
            show pm_E _ _ _ 83 [(0, .ref (pl 203)), (1, .int (iI x)), (2, .int (iI m)), (3, .int (iI i)), (4, .int (iI (rt (a 15 (s 21 - 1)))))] [.int (iI (rt (a 15 (s 21 - 1)))), .ref (pl 205), .ref (pl 203)] _ _ _ _
            refine pm_e_call (T2 := pm_mm123) pm_a135_83 rfl rfl rfl rfl rfl rfl rfl rfl rfl ?_
            show pm_E none _ _ 0 [(0, .ref (pl 205)), (1, .int (iI (rt (a 15 (s 21 - 1)))))] [] _ _ _ _
            refine C_zat_205 hW h203 (by omega) (by omega) ?_
            show pm_E _ _ _ 86 [(0, .ref (pl 203)), (1, .int (iI x)), (2, .int (iI m)), (3, .int (iI i)), (4, .int (iI (rt (a 15 (s 21 - 1)))))] [.int (iI (a 10 (rt (a 15 (s 21 - 1))))), .ref (pl 203)] _ _ _ _
            refine pm_i_callv (k := (pl 203)) (T2 := pm_mm115) pm_a135_86 rfl rfl rfl (cg_203 hW h203) ⟨Nat.le_of_ble_eq_true rfl, Nat.le_of_ble_eq_true rfl, rfl, by decide +kernel⟩ ?_
            show pm_E none _ _ 0 [(0, .ref (pl 203)), (1, .int (iI (a 10 (rt (a 15 (s 21 - 1))))))] [] _ _ _ _
            refine C_zawait2 (s := updS s 21 (s 21 - 1)) (a := updA a 11 lk1) hW h203 (by show 0 ≤ s 21 - 1; omega) (by show s 21 - 1 ≤ 501; omega) (fun s1 a1 st1 bd1 gs1 ga1 => ?_)
            replace st1 : s 21 - 1 < 501 → s1 21 = s 21 - 1 + 1 ∧ a1 15 = updI (a 15) (s 21 - 1) (a 10 (rt (a 15 (s 21 - 1)))) := st1
            show pm_E _ _ _ 89 [(0, .ref (pl 203)), (1, .int (iI x)), (2, .int (iI m)), (3, .int (iI i)), (4, .int (iI (rt (a 15 (s 21 - 1)))))] [] _ _ _ _
            refine pm_e_sim pm_a135_89 rfl ?_
            show pm_E _ _ _ 90 [(0, .ref (pl 203)), (1, .int (iI x)), (2, .int (iI m)), (3, .int (iI i)), (4, .int (iI (rt (a 15 (s 21 - 1)))))] [.ref (pl 203)] _ _ _ _
            refine pm_e_sim pm_a135_90 rfl ?_
            show pm_E _ _ _ 91 [(0, .ref (pl 203)), (1, .int (iI x)), (2, .int (iI m)), (3, .int (iI i)), (4, .int (iI (rt (a 15 (s 21 - 1)))))] [.ref (pl 203), .ref (pl 203)] _ _ _ _
            refine pm_i_get pm_a135_91 rfl (cg_203 hW h203) rfl ?_
            show pm_E _ _ _ 94 [(0, .ref (pl 203)), (1, .int (iI x)), (2, .int (iI m)), (3, .int (iI i)), (4, .int (iI (rt (a 15 (s 21 - 1)))))] [.ref (pl 204), .ref (pl 203)] _ _ _ _
            refine pm_e_sim pm_a135_94 rfl ?_
            show pm_E _ _ _ 96 [(0, .ref (pl 203)), (1, .int (iI x)), (2, .int (iI m)), (3, .int (iI i)), (4, .int (iI (rt (a 15 (s 21 - 1)))))] [.int (iI (rt (a 15 (s 21 - 1)))), .ref (pl 204), .ref (pl 203)] _ _ _ _
            refine pm_e_call (T2 := pm_mm123) pm_a135_96 rfl rfl rfl rfl rfl rfl rfl rfl rfl ?_
            show pm_E none _ _ 0 [(0, .ref (pl 204)), (1, .int (iI (rt (a 15 (s 21 - 1)))))] [] _ _ _ _
            refine C_zat_204 hW h203 (by omega) (by omega) ?_
            refine pm_e_top (y := iI (a 9 (rt (a 15 (s 21 - 1))))) (by rw [show a1 9 = a 9 from ga1 9 (by omega)]) ?_
            show pm_E _ _ _ 99 [(0, .ref (pl 203)), (1, .int (iI x)), (2, .int (iI m)), (3, .int (iI i)), (4, .int (iI (rt (a 15 (s 21 - 1)))))] [.int (iI (a 9 (rt (a 15 (s 21 - 1))))), .ref (pl 203)] _ _ _ _
            refine pm_i_callv (k := (pl 203)) (T2 := pm_mm115) pm_a135_99 rfl rfl rfl (cg_203 hW h203) ⟨Nat.le_of_ble_eq_true rfl, Nat.le_of_ble_eq_true rfl, rfl, by decide +kernel⟩ ?_
            show pm_E none _ _ 0 [(0, .ref (pl 203)), (1, .int (iI (a 9 (rt (a 15 (s 21 - 1))))))] [] _ _ _ _
            refine C_zawait2 hW h203 bd1.1 bd1.2 (fun s2 a2 st2 bd2 gs2 ga2 => ?_)
            show pm_E _ _ _ 102 [(0, .ref (pl 203)), (1, .int (iI x)), (2, .int (iI m)), (3, .int (iI i)), (4, .int (iI (rt (a 15 (s 21 - 1)))))] [] _ _ _ _
            refine pm_e_goto pm_a135_102 rfl ?_
            show pm_E _ _ _ 146 [(0, .ref (pl 203)), (1, .int (iI x)), (2, .int (iI m)), (3, .int (iI i)), (4, .int (iI (rt (a 15 (s 21 - 1)))))] [] _ _ _ _
            refine pm_e_inc (y := iI (i + 1)) pm_a135_146 rfl (iI_add _ _) (by decide +kernel) rfl ?_
            show pm_E _ _ _ 149 [(0, .ref (pl 203)), (1, .int (iI x)), (2, .int (iI m)), (3, .int (iI (i + 1))), (4, .int (iI (rt (a 15 (s 21 - 1)))))] [] _ _ _ _
            refine pm_e_goto pm_a135_149 rfl ?_
            show pm_E _ _ _ 25 [(0, .ref (pl 203)), (1, .int (iI x)), (2, .int (iI m)), (3, .int (iI (i + 1))), (4, .int (iI (rt (a 15 (s 21 - 1)))))] [] _ _ _ _
            show pm_E _ _ _ 25 ([(0, .ref (pl 203)), (1, .int (iI x)), (2, .int (iI m)), (3, .int (iI (i + 1)))] ++ [(4, .int (iI (rt (a 15 (s 21 - 1)))))]) [] _ _ _ _
            refine pm_e_more [(4, .int (iI (rt (a 15 (s 21 - 1)))))] (show ([0, 1, 2, 3, 4] : List Nat).Nodup from by decide) ?_
            refine ih (i + 1) m s2 a2 (updC c 4 y1) (l ++ [0]) (by omega) (by omega) (by omega) (by omega) (fun j h => by rw [gs2 j h, gs1 j h]; simp [updS, h, fS j h]) (fun j h1 h2 h3 => by rw [ga2 j h3, ga1 j h3]; simp [updA, h1, fA j h1 h2 h3]) (fun j h => by rw [updC_n h]; exact fC j h) (by rw [ga2 11 (by omega), show a1 11 = lk1 from ga1 11 (by omega)]; exact hL1) (by rw [updC_at]; exact g1) (by rw [List.length_append]; simp; omega) bd2 (fun c9 => ?_) (fun c9 => ?_) (by rw [ga2 13 (by omega), show a1 13 = a 13 from ga1 13 (by omega)]; exact hmk) k (by omega)
            · obtain ⟨p1, p2⟩ := st1 (by omega)
              obtain ⟨p3, p4⟩ := st2 (by omega)
              have hn := LY_arr (x := (rt (a 15 (s 21 - 1)))) hL9 (by omega) (u2 k9)
              refine ⟨?_, by omega, fun j z y => ?_⟩
              · rw [← e9, ← e10, ga2 13 (by omega), show a1 13 = a 13 from ga1 13 (by omega), p4, p2, show s1 21 = s 21 + -1 + 1 by omega, show s2 21 = s 21 + -1 + 2 by omega]
                exact hn
              · rw [p4, p2, show s1 21 = s 21 by omega]
                have h9 := hwt9 j
                unfold updI
                repeat' split
                all_goals omega
            · have := LY_full hL9 (by omega) u3; omega
          · skip
            replace k9 : a 9 (rt (a 15 (s 21 - 1))) = -1 := k9
            show pm_E _ _ _ 65 [(0, .ref (pl 203)), (1, .int (iI x)), (2, .int (iI m)), (3, .int (iI i)), (4, .int (iI (rt (a 15 (s 21 - 1)))))] [.int (iI 0)] _ _ _ _
            refine pm_e_ift pm_a135_65 rfl (by decide +kernel) ?_
            show pm_E _ _ _ 105 [(0, .ref (pl 203)), (1, .int (iI x)), (2, .int (iI m)), (3, .int (iI i)), (4, .int (iI (rt (a 15 (s 21 - 1)))))] [] _ _ _ _
            refine pm_e_sim pm_a135_105 rfl ?_
            show pm_E _ _ _ 106 [(0, .ref (pl 203)), (1, .int (iI x)), (2, .int (iI m)), (3, .int (iI i)), (4, .int (iI (rt (a 15 (s 21 - 1)))))] [.ref (pl 203)] _ _ _ _
            refine pm_i_get pm_a135_106 rfl (cg_203 hW h203) rfl ?_
            show pm_E _ _ _ 109 [(0, .ref (pl 203)), (1, .int (iI x)), (2, .int (iI m)), (3, .int (iI i)), (4, .int (iI (rt (a 15 (s 21 - 1)))))] [.ref (pl 208)] _ _ _ _
            refine pm_e_sim pm_a135_109 rfl ?_
            show pm_E _ _ _ 111 [(0, .ref (pl 203)), (1, .int (iI x)), (2, .int (iI m)), (3, .int (iI i)), (4, .int (iI (rt (a 15 (s 21 - 1)))))] [.int (iI (rt (a 15 (s 21 - 1)))), .ref (pl 208)] _ _ _ _
            refine pm_e_call (T2 := pm_mm123) pm_a135_111 rfl rfl rfl rfl rfl rfl rfl rfl rfl ?_
            show pm_E none _ _ 0 [(0, .ref (pl 208)), (1, .int (iI (rt (a 15 (s 21 - 1)))))] [] _ _ _ _
            refine C_zat_208 hW h203 (by omega) (by omega) ?_
            show pm_E _ _ _ 114 [(0, .ref (pl 203)), (1, .int (iI x)), (2, .int (iI m)), (3, .int (iI i)), (4, .int (iI (rt (a 15 (s 21 - 1)))))] [.int (iI (a 13 (rt (a 15 (s 21 - 1)))))] _ _ _ _
            refine pm_i_ne (t := 130) pm_a135_114 rfl ⟨by omega, by omega⟩ (fun h_4 => ?_) (fun h_4 => ?_)
            · skip
              show pm_E _ _ _ 130 [(0, .ref (pl 203)), (1, .int (iI x)), (2, .int (iI m)), (3, .int (iI i)), (4, .int (iI (rt (a 15 (s 21 - 1)))))] [] _ _ _ _
              refine pm_e_sim pm_a135_130 rfl ?_
              show pm_E _ _ _ 131 [(0, .ref (pl 203)), (1, .int (iI x)), (2, .int (iI m)), (3, .int (iI i)), (4, .int (iI (rt (a 15 (s 21 - 1)))))] [.ref (pl 203)] _ _ _ _
              refine pm_i_get pm_a135_131 rfl (cg_203 hW h203) rfl ?_
              show pm_E _ _ _ 134 [(0, .ref (pl 203)), (1, .int (iI x)), (2, .int (iI m)), (3, .int (iI i)), (4, .int (iI (rt (a 15 (s 21 - 1)))))] [.ref (pl (60 + 2 * 4))] _ _ _ _
              refine pm_e_sim pm_a135_134 rfl ?_
              show pm_E _ _ _ 135 [(0, .ref (pl 203)), (1, .int (iI x)), (2, .int (iI m)), (3, .int (iI i)), (4, .int (iI (rt (a 15 (s 21 - 1)))))] [.ref (pl 203), .ref (pl (60 + 2 * 4))] _ _ _ _
              refine pm_i_get pm_a135_135 rfl (cg_203 hW h203) rfl ?_
              show pm_E _ _ _ 138 [(0, .ref (pl 203)), (1, .int (iI x)), (2, .int (iI m)), (3, .int (iI i)), (4, .int (iI (rt (a 15 (s 21 - 1)))))] [.ref (pl 208), .ref (pl (60 + 2 * 4))] _ _ _ _
              refine pm_e_sim pm_a135_138 rfl ?_
              show pm_E _ _ _ 140 [(0, .ref (pl 203)), (1, .int (iI x)), (2, .int (iI m)), (3, .int (iI i)), (4, .int (iI (rt (a 15 (s 21 - 1)))))] [.int (iI (rt (a 15 (s 21 - 1)))), .ref (pl 208), .ref (pl (60 + 2 * 4))] _ _ _ _
              refine pm_e_call (T2 := pm_mm123) pm_a135_140 rfl rfl rfl rfl rfl rfl rfl rfl rfl ?_
              show pm_E none _ _ 0 [(0, .ref (pl 208)), (1, .int (iI (rt (a 15 (s 21 - 1)))))] [] _ _ _ _
              refine C_zat_208 hW h203 (by omega) (by omega) ?_
              show pm_E _ _ _ 143 [(0, .ref (pl 203)), (1, .int (iI x)), (2, .int (iI m)), (3, .int (iI i)), (4, .int (iI (rt (a 15 (s 21 - 1)))))] [.int (iI (a 13 (rt (a 15 (s 21 - 1))))), .ref (pl (60 + 2 * 4))] _ _ _ _
              refine pm_i_callv (k := (pl (60 + 2 * 4))) (T2 := pm_mm40) pm_a135_143 rfl rfl rfl (cg_o (cj4 hW h203)) ⟨Nat.le_of_ble_eq_true rfl, Nat.le_of_ble_eq_true rfl, rfl, by decide +kernel⟩ ?_
              show pm_E none _ _ 0 [(0, .ref (pl (60 + 2 * 4))), (1, .int (iI (a 13 (rt (a 15 (s 21 - 1))))))] [] _ _ _ _
              refine C_put hW (cj4 hW h203) hmd ⟨by omega, by omega⟩ (fun y1 g1 => ?_)
              show pm_E _ _ _ 146 [(0, .ref (pl 203)), (1, .int (iI x)), (2, .int (iI m)), (3, .int (iI i)), (4, .int (iI (rt (a 15 (s 21 - 1)))))] [] _ _ _ _
              refine pm_e_inc (y := iI (i + 1)) pm_a135_146 rfl (iI_add _ _) (by decide +kernel) rfl ?_
              show pm_E _ _ _ 149 [(0, .ref (pl 203)), (1, .int (iI x)), (2, .int (iI m)), (3, .int (iI (i + 1))), (4, .int (iI (rt (a 15 (s 21 - 1)))))] [] _ _ _ _
              refine pm_e_goto pm_a135_149 rfl ?_
              show pm_E _ _ _ 25 [(0, .ref (pl 203)), (1, .int (iI x)), (2, .int (iI m)), (3, .int (iI (i + 1))), (4, .int (iI (rt (a 15 (s 21 - 1)))))] [] _ _ _ _
              show pm_E _ _ _ 25 ([(0, .ref (pl 203)), (1, .int (iI x)), (2, .int (iI m)), (3, .int (iI (i + 1)))] ++ [(4, .int (iI (rt (a 15 (s 21 - 1)))))]) [] _ _ _ _
              refine pm_e_more [(4, .int (iI (rt (a 15 (s 21 - 1)))))] (show ([0, 1, 2, 3, 4] : List Nat).Nodup from by decide) ?_
              refine ih (i + 1) m _ _ _ (l ++ [a 13 (rt (a 15 (s 21 - 1)))]) (by omega) (by omega) (by omega) (by omega) (fun j h => by simp [updS, h, fS j h]) (fun j h1 h2 h3 => by simp [updA, h1, h2, fA j h1 h2 h3]) (fun j h => by rw [updC_n h]; exact fC j h) hL1 (by rw [updC_at]; exact g1) (by rw [List.length_append]; simp; omega) ⟨by show 0 ≤ s 21 - 1; omega, by show s 21 - 1 ≤ 501; omega⟩ (fun c9 => ⟨?_, by show s 21 - 1 ≤ _; omega, fun j z y => hwt9 j z (by have y9 : j < s 21 - 1 := y; omega)⟩) (fun c9 => ?_) hmk k (by omega)
              · rw [← e9, ← e10]; exact LY_old (x := (rt (a 15 (s 21 - 1)))) (v := a 13 (rt (a 15 (s 21 - 1)))) hL9 (by omega) (by omega) ⟨by omega, by omega⟩ (u1 k9) (by omega) (by omega)
              · have := LY_full hL9 (by omega) u3; omega
            · skip
              show pm_E _ _ _ 117 [(0, .ref (pl 203)), (1, .int (iI x)), (2, .int (iI m)), (3, .int (iI i)), (4, .int (iI (rt (a 15 (s 21 - 1)))))] [] _ _ _ _
              refine pm_e_inc (y := iI (m + 1)) pm_a135_117 rfl (iI_add _ _) (by decide +kernel) rfl ?_
              show pm_E _ _ _ 120 [(0, .ref (pl 203)), (1, .int (iI x)), (2, .int (iI (m + 1))), (3, .int (iI i)), (4, .int (iI (rt (a 15 (s 21 - 1)))))] [] _ _ _ _
              refine pm_e_sim pm_a135_120 rfl ?_
              show pm_E _ _ _ 121 [(0, .ref (pl 203)), (1, .int (iI x)), (2, .int (iI (m + 1))), (3, .int (iI i)), (4, .int (iI (rt (a 15 (s 21 - 1)))))] [.ref (pl 203)] _ _ _ _
              refine pm_i_get pm_a135_121 rfl (cg_203 hW h203) rfl ?_
              show pm_E _ _ _ 124 [(0, .ref (pl 203)), (1, .int (iI x)), (2, .int (iI (m + 1))), (3, .int (iI i)), (4, .int (iI (rt (a 15 (s 21 - 1)))))] [.ref (pl 208)] _ _ _ _
              refine pm_e_sim pm_a135_124 rfl ?_
              show pm_E _ _ _ 126 [(0, .ref (pl 203)), (1, .int (iI x)), (2, .int (iI (m + 1))), (3, .int (iI i)), (4, .int (iI (rt (a 15 (s 21 - 1)))))] [.int (iI (rt (a 15 (s 21 - 1)))), .ref (pl 208)] _ _ _ _
              refine pm_e_sim pm_a135_126 rfl ?_
              show pm_E _ _ _ 127 [(0, .ref (pl 203)), (1, .int (iI x)), (2, .int (iI (m + 1))), (3, .int (iI i)), (4, .int (iI (rt (a 15 (s 21 - 1)))))] [.int (iI (m + 1)), .int (iI (rt (a 15 (s 21 - 1)))), .ref (pl 208)] _ _ _ _
              refine pm_e_call (T2 := pm_mm114) pm_a135_127 rfl rfl rfl rfl rfl rfl rfl rfl rfl ?_
              show pm_E none _ _ 0 [(0, .ref (pl 208)), (1, .int (iI (rt (a 15 (s 21 - 1))))), (2, .int (iI (m + 1)))] [] _ _ _ _
              refine C_zset_208 hW h203 (by omega) (by omega) ?_
              show pm_E _ _ _ 130 [(0, .ref (pl 203)), (1, .int (iI x)), (2, .int (iI (m + 1))), (3, .int (iI i)), (4, .int (iI (rt (a 15 (s 21 - 1)))))] [] _ _ _ _
              refine pm_e_sim pm_a135_130 rfl ?_
              show pm_E _ _ _ 131 [(0, .ref (pl 203)), (1, .int (iI x)), (2, .int (iI (m + 1))), (3, .int (iI i)), (4, .int (iI (rt (a 15 (s 21 - 1)))))] [.ref (pl 203)] _ _ _ _
              refine pm_i_get pm_a135_131 rfl (cg_203 hW h203) rfl ?_
              show pm_E _ _ _ 134 [(0, .ref (pl 203)), (1, .int (iI x)), (2, .int (iI (m + 1))), (3, .int (iI i)), (4, .int (iI (rt (a 15 (s 21 - 1)))))] [.ref (pl (60 + 2 * 4))] _ _ _ _
              refine pm_e_sim pm_a135_134 rfl ?_
              show pm_E _ _ _ 135 [(0, .ref (pl 203)), (1, .int (iI x)), (2, .int (iI (m + 1))), (3, .int (iI i)), (4, .int (iI (rt (a 15 (s 21 - 1)))))] [.ref (pl 203), .ref (pl (60 + 2 * 4))] _ _ _ _
              refine pm_i_get pm_a135_135 rfl (cg_203 hW h203) rfl ?_
              show pm_E _ _ _ 138 [(0, .ref (pl 203)), (1, .int (iI x)), (2, .int (iI (m + 1))), (3, .int (iI i)), (4, .int (iI (rt (a 15 (s 21 - 1)))))] [.ref (pl 208), .ref (pl (60 + 2 * 4))] _ _ _ _
              refine pm_e_sim pm_a135_138 rfl ?_
              show pm_E _ _ _ 140 [(0, .ref (pl 203)), (1, .int (iI x)), (2, .int (iI (m + 1))), (3, .int (iI i)), (4, .int (iI (rt (a 15 (s 21 - 1)))))] [.int (iI (rt (a 15 (s 21 - 1)))), .ref (pl 208), .ref (pl (60 + 2 * 4))] _ _ _ _
              refine pm_e_call (T2 := pm_mm123) pm_a135_140 rfl rfl rfl rfl rfl rfl rfl rfl rfl ?_
              show pm_E none _ _ 0 [(0, .ref (pl 208)), (1, .int (iI (rt (a 15 (s 21 - 1)))))] [] _ _ _ _
              refine C_zat_208 hW h203 (by omega) (by omega) ?_
              refine pm_e_top (y := iI (m + 1)) (congrArg iI (updI_s _ _ _)) ?_
              show pm_E _ _ _ 143 [(0, .ref (pl 203)), (1, .int (iI x)), (2, .int (iI (m + 1))), (3, .int (iI i)), (4, .int (iI (rt (a 15 (s 21 - 1)))))] [.int (iI (m + 1)), .ref (pl (60 + 2 * 4))] _ _ _ _
              refine pm_i_callv (k := (pl (60 + 2 * 4))) (T2 := pm_mm40) pm_a135_143 rfl rfl rfl (cg_o (cj4 hW h203)) ⟨Nat.le_of_ble_eq_true rfl, Nat.le_of_ble_eq_true rfl, rfl, by decide +kernel⟩ ?_
              show pm_E none _ _ 0 [(0, .ref (pl (60 + 2 * 4))), (1, .int (iI (m + 1)))] [] _ _ _ _
              refine C_put hW (cj4 hW h203) hmd ⟨by omega, by omega⟩ (fun y1 g1 => ?_)
              show pm_E _ _ _ 146 [(0, .ref (pl 203)), (1, .int (iI x)), (2, .int (iI (m + 1))), (3, .int (iI i)), (4, .int (iI (rt (a 15 (s 21 - 1)))))] [] _ _ _ _
              refine pm_e_inc (y := iI (i + 1)) pm_a135_146 rfl (iI_add _ _) (by decide +kernel) rfl ?_
              show pm_E _ _ _ 149 [(0, .ref (pl 203)), (1, .int (iI x)), (2, .int (iI (m + 1))), (3, .int (iI (i + 1))), (4, .int (iI (rt (a 15 (s 21 - 1)))))] [] _ _ _ _
              refine pm_e_goto pm_a135_149 rfl ?_
              show pm_E _ _ _ 25 [(0, .ref (pl 203)), (1, .int (iI x)), (2, .int (iI (m + 1))), (3, .int (iI (i + 1))), (4, .int (iI (rt (a 15 (s 21 - 1)))))] [] _ _ _ _
              show pm_E _ _ _ 25 ([(0, .ref (pl 203)), (1, .int (iI x)), (2, .int (iI (m + 1))), (3, .int (iI (i + 1)))] ++ [(4, .int (iI (rt (a 15 (s 21 - 1)))))]) [] _ _ _ _
              refine pm_e_more [(4, .int (iI (rt (a 15 (s 21 - 1)))))] (show ([0, 1, 2, 3, 4] : List Nat).Nodup from by decide) ?_
              refine ih (i + 1) (m + 1) _ _ _ (l ++ [m + 1]) (by omega) (by omega) (by omega) (by omega) (fun j h => by simp [updS, h, fS j h]) (fun j h1 h2 h3 => by simp [updA, h1, h2, fA j h1 h2 h3]) (fun j h => by rw [updC_n h]; exact fC j h) hL1 (by rw [updC_at]; exact g1) (by rw [List.length_append]; simp; omega) ⟨by show 0 ≤ s 21 - 1; omega, by show s 21 - 1 ≤ 501; omega⟩ (fun c9 => ⟨?_, by show s 21 - 1 ≤ _; omega, fun j z y => hwt9 j z (by have y9 : j < s 21 - 1 := y; omega)⟩) (fun c9 => ?_) (fun x x0 x1 => ?_) k (by omega)
              · rw [← e9, ← e10]; exact LY_new (x := (rt (a 15 (s 21 - 1)))) (v := m + 1) (z := m + 1) hL9 (by omega) (by omega) ⟨by omega, by omega⟩ (u1 k9) (by omega) (by omega) (by omega)
              · have := LY_full hL9 (by omega) u3; omega
              · show 0 ≤ updI (a 13) _ (m + 1) x ∧ updI (a 13) _ (m + 1) x ≤ 1000
                have h9 := hmk x x0 x1
                unfold updI
                split <;> omega
set_option maxHeartbeats 4000000 in
set_option maxRecDepth 100000 in
theorem C_ztellType {d n : Nat} {kd pl : Nat → Nat} {s : Nat → Int} {a : Nat → Int → Int} {c : Nat → cdt} {M : List va_E} {Q : Option Value → List va_E → Nat → Nat → Prop} {x : Int} {rt : Int → Int} {U : Int → List Int} (hW : wf n kd pl) (h203 : al n kd pl 203) (hK : s 20 ≤ 2800) (hG : GC (s 20) (a 9) (a 10) (a 11) rt) (hU : ∀ x, 0 ≤ x → x < s 20 → (a 9 (rt x) = -1 → U x = [rt x + 1]) ∧ (a 9 (rt x) ≠ -1 → U x = 0 :: (U (a 9 (rt x)) ++ U (a 10 (rt x)))) ∧ 1 ≤ (U x).length) (ho4 : okx (rm 4) (c 4)) (hx : 0 ≤ x ∧ x < s 20) (k : (∀ s' a' c' l, (∀ j, j ≠ 21 → s' j = s j) → (∀ j, j ≠ 11 → j ≠ 13 → j ≠ 15 → a' j = a j) → (∀ j, j ≠ 4 → c' j = c j) → md (c' 4) (rm 4) l → (0 ≤ s' 21 ∧ s' 21 ≤ 501) → ((l.length ≤ 500 ∧ l = cnf [] (U x)) ∨ (500 < l.length ∧ 500 < (cnf [] (U x)).length)) → Q none (ch n kd pl s' a' c' M) 0 0)) : pm_E none (d + 3) pm_mm135 0 [(0, .ref (pl 203)), (1, .int (iI x))] [] (ch n kd pl s a c M) 0 0 Q := by
  refine pm_e_sim pm_a135_0 rfl ?_
  show pm_E _ _ _ 1 [(0, .ref (pl 203)), (1, .int (iI x))] [.ref (pl 203)] _ _ _ _
  refine pm_i_callv (k := (pl 203)) (T2 := pm_mm132) pm_a135_1 rfl rfl rfl (cg_203 hW h203) ⟨Nat.le_of_ble_eq_true rfl, Nat.le_of_ble_eq_true rfl, rfl, by decide +kernel⟩ ?_
  show pm_E none _ _ 0 [(0, .ref (pl 203))] [] _ _ _ _
  refine C_zclearMarks hW h203 (fun a1 fr1 hz1 => ?_)
  show pm_E _ _ _ 4 [(0, .ref (pl 203)), (1, .int (iI x))] [] _ _ _ _
  refine pm_e_sim pm_a135_4 rfl ?_
  show pm_E _ _ _ 5 [(0, .ref (pl 203)), (1, .int (iI x))] [.ref (pl 203)] _ _ _ _
  refine pm_i_get pm_a135_5 rfl (cg_203 hW h203) rfl ?_
  show pm_E _ _ _ 8 [(0, .ref (pl 203)), (1, .int (iI x))] [.ref (pl (60 + 2 * 4))] _ _ _ _
  refine pm_i_callv (k := (pl (60 + 2 * 4))) (T2 := pm_mm13) pm_a135_8 rfl rfl rfl (cg_o (cj4 hW h203)) ⟨Nat.le_of_ble_eq_true rfl, Nat.le_of_ble_eq_true rfl, rfl, by decide +kernel⟩ ?_
  show pm_E none _ _ 0 [(0, .ref (pl (60 + 2 * 4)))] [] _ _ _ _
  refine C_clear hW (cj4 hW h203) ho4 (fun y1 g1 => ?_)
  show pm_E _ _ _ 11 [(0, .ref (pl 203)), (1, .int (iI x))] [] _ _ _ _
  refine pm_e_sim pm_a135_11 rfl ?_
  show pm_E _ _ _ 12 [(0, .ref (pl 203)), (1, .int (iI x))] [.ref (pl 203)] _ _ _ _
  refine pm_e_sim pm_a135_12 rfl ?_
  refine pm_e_top (y := iI 0) (by decide +kernel) ?_
  show pm_E _ _ _ 13 [(0, .ref (pl 203)), (1, .int (iI x))] [.int (iI 0), .ref (pl 203)] _ _ _ _
  refine pm_i_put pm_a135_13 rfl (cg_203 hW h203) rfl (Nat.le_of_ble_eq_true rfl) (Or.inl rfl) (cw_21 hW h203 0) ?_
  show pm_E _ _ _ 16 [(0, .ref (pl 203)), (1, .int (iI x))] [] _ _ _ _
  refine pm_e_sim pm_a135_16 rfl ?_
  show pm_E _ _ _ 17 [(0, .ref (pl 203)), (1, .int (iI x))] [.ref (pl 203)] _ _ _ _
  refine pm_e_sim pm_a135_17 rfl ?_
  show pm_E _ _ _ 18 [(0, .ref (pl 203)), (1, .int (iI x))] [.int (iI x), .ref (pl 203)] _ _ _ _
  refine pm_i_callv (k := (pl 203)) (T2 := pm_mm115) pm_a135_18 rfl rfl rfl (cg_203 hW h203) ⟨Nat.le_of_ble_eq_true rfl, Nat.le_of_ble_eq_true rfl, rfl, by decide +kernel⟩ ?_
  show pm_E none _ _ 0 [(0, .ref (pl 203)), (1, .int (iI x))] [] _ _ _ _
  refine C_zawaitT (s := updS s 21 0) hW h203 (by show (0 : Int) ≤ 0; omega) (by show (0 : Int) < 501; omega) (fun s2 a2 ew2 ef2 gs2 ga2 => ?_)
  replace ew2 : s2 21 = 0 + 1 := ew2
  replace ef2 : a2 15 = updI (a1 15) 0 x := ef2
  show pm_E _ _ _ 21 [(0, .ref (pl 203)), (1, .int (iI x))] [] _ _ _ _
  refine pm_e_sim pm_a135_21 rfl ?_
  refine pm_e_top (y := iI 0) (by decide +kernel) ?_
  show pm_E _ _ _ 22 [(0, .ref (pl 203)), (1, .int (iI x))] [.int (iI 0)] _ _ _ _
  refine pm_e_sim pm_a135_22 rfl ?_
  show pm_E _ _ _ 23 [(0, .ref (pl 203)), (1, .int (iI x)), (2, .int (iI 0))] [] _ _ _ _
  refine pm_e_sim pm_a135_23 rfl ?_
  refine pm_e_top (y := iI 0) (by decide +kernel) ?_
  show pm_E _ _ _ 24 [(0, .ref (pl 203)), (1, .int (iI x)), (2, .int (iI 0))] [.int (iI 0)] _ _ _ _
  refine pm_e_sim pm_a135_24 rfl ?_
  show pm_E _ _ _ 25 [(0, .ref (pl 203)), (1, .int (iI x)), (2, .int (iI 0)), (3, .int (iI 0))] [] _ _ _ _
  have b0 := hG.2.1
  refine C_ztell_l (s0 := s) (a0 := a) (c0 := c) hW h203 hK hG hU 503 0 0 s2 a2 (updC c 4 y1) [] (by omega) (by omega) (by omega) (by omega) (fun j h => by rw [gs2 j h]; simp [updS, h]) (fun j h1 h2 h3 => by rw [ga2 j h3, fr1 j h2]) (fun j h => updC_n h) (by rw [ga2 11 (by omega), fr1 11 (by omega)]; exact hG.1) (by rw [updC_at]; exact g1) rfl ⟨by omega, by omega⟩ (fun _ => ⟨?_, by omega, fun j z y => ?_⟩) (fun z => by omega) (fun q q0 q1 => ?_) k (by omega)
  · rw [show s2 21 = 1 by omega]; exact LY_beg (t := x) (fun q q0 q1 => by rw [ga2 13 (by omega)]; exact hz1 q q0 (by omega)) (by rw [ef2, updI_s])
  · rw [show j = 0 by omega, ef2, updI_s]; exact hx
  · rw [ga2 13 (by omega), hz1 q q0 (by omega)]; omega
set_option maxHeartbeats 4000000 in
set_option maxRecDepth 100000 in
theorem C_zlen_l {d n : Nat} {kd pl : Nat → Nat} {M : List va_E} {Q : Option Value → List va_E → Nat → Nat → Prop} {s0 : Nat → Int} {c : Nat → cdt} {a0 : Nat → Int → Int} {j : Nat} {y : cdt} {x : Int} {TY : List Int → List Int → Prop} (hW : wf n kd pl) (h203 : al n kd pl 203) (hj : j < 38 ∧ al n kd pl (60 + 2 * j)) (hcj : c j = y) (hok : okx (rm j) y) (hn : y.1 ≤ 500) (hcell : ∀ q, 0 ≤ q → q < y.1 → y.2.2 q = 0 ∨ y.2.2 q = 1 ∨ (2 ≤ y.2.2 q ∧ y.2.2 q ≤ 6) ∨ (10 ≤ y.2.2 q ∧ y.2.2 q - 10 < a0 2 q)) (hD1 : ∀ q, 0 ≤ q → q < y.1 → 0 ≤ a0 2 q ∧ a0 2 q ≤ q) (h22 : s0 22 = 1) : ∀ (f : Nat) (i : Int) (s : Nat → Int) (a : Nat → Int → Int), 0 ≤ i → i ≤ y.1 → (∀ i, i ≠ 20 → i ≠ 21 → s i = s0 i) → (∀ i, i < 9 → a i = a0 i) → 0 ≤ s 21 → (∃ rt, TI y.2.2 (a0 2) y.1 TY (s 20) (a 9) (a 10) (a 11) rt (a 14) (ws9 (a 15) (s 21)) i) → (∀ (s : Nat → Int) (a : Nat → Int → Int) rt, (∀ i, i ≠ 20 → i ≠ 21 → s i = s0 i) → (∀ i, i < 9 → a i = a0 i) → 0 ≤ s 21 → s 21 ≤ 501 → TI y.2.2 (a0 2) y.1 TY (s 20) (a 9) (a 10) (a 11) rt (a 14) ([]) y.1 → ∀ i', pm_E none (d + 5) pm_mm111 71 [(0, .ref (pl 203)), (1, .ref (pl (60 + 2 * j))), (2, .int (iI x)), (3, .int (iI (i')))] [] (ch n kd pl s a c M) 0 0 Q) → y.1 - i < (f : Int) → pm_E none (d + 5) pm_mm111 43 [(0, .ref (pl 203)), (1, .ref (pl (60 + 2 * j))), (2, .int (iI x)), (3, .int (iI i))] [] (ch n kd pl s a c M) 0 0 Q := by
  intro f
  induction f with
  | zero =>
    intro i s a h0 h1 fS fA hw hT k hf
    exfalso; omega
  | succ f ih =>
    intro i s a h0 h1 fS fA hw hT k hf
    obtain ⟨rt, hT⟩ := hT
    have rbj := rm_b j
    obtain ⟨_, _, _, _⟩ := id hok
    have hyj : (c j).1 = y.1 := by rw [hcj]
    have hf9 := hT.2.2.2.2.2.1
    rw [ws9_len] at hf9
    have hl9 := FO9_len hf9
    have e22 := fS 22 (by omega) (by omega)
    refine pm_e_sim pm_a111_43 rfl ?_
    show pm_E _ _ _ 44 [(0, .ref (pl 203)), (1, .ref (pl (60 + 2 * j))), (2, .int (iI x)), (3, .int (iI i))] [.int (iI i)] _ _ _ _
    refine pm_e_sim pm_a111_44 rfl ?_
    show pm_E _ _ _ 45 [(0, .ref (pl 203)), (1, .ref (pl (60 + 2 * j))), (2, .int (iI x)), (3, .int (iI i))] [.ref (pl (60 + 2 * j)), .int (iI i)] _ _ _ _
    refine pm_i_get pm_a111_45 rfl (cg_o hj) rfl ?_
    show pm_E _ _ _ 48 [(0, .ref (pl 203)), (1, .ref (pl (60 + 2 * j))), (2, .int (iI x)), (3, .int (iI i))] [.int (iI ((c j).1)), .int (iI i)] _ _ _ _
    refine pm_c_ge (t := 71) pm_a111_48 rfl ⟨by omega, by omega⟩ ⟨by omega, by omega⟩ (fun h_1 => ?_) (fun h_1 => ?_)
    · skip
      show pm_E _ _ _ 71 [(0, .ref (pl 203)), (1, .ref (pl (60 + 2 * j))), (2, .int (iI x)), (3, .int (iI i))] [] _ _ _ _
      have hi : i = y.1 := by omega
      rw [ws9_0 (by omega), hi] at hT
      exact k s a rt fS fA hw (by omega) hT _
    · skip
      show pm_E _ _ _ 51 [(0, .ref (pl 203)), (1, .ref (pl (60 + 2 * j))), (2, .int (iI x)), (3, .int (iI i))] [] _ _ _ _
      refine pm_e_sim pm_a111_51 rfl ?_
      show pm_E _ _ _ 52 [(0, .ref (pl 203)), (1, .ref (pl (60 + 2 * j))), (2, .int (iI x)), (3, .int (iI i))] [.ref (pl 203)] _ _ _ _
      refine pm_e_sim pm_a111_52 rfl ?_
      show pm_E _ _ _ 53 [(0, .ref (pl 203)), (1, .ref (pl (60 + 2 * j))), (2, .int (iI x)), (3, .int (iI i))] [.ref (pl (60 + 2 * j)), .ref (pl 203)] _ _ _ _
      refine pm_e_sim pm_a111_53 rfl ?_
      show pm_E _ _ _ 54 [(0, .ref (pl 203)), (1, .ref (pl (60 + 2 * j))), (2, .int (iI x)), (3, .int (iI i))] [.int (iI i), .ref (pl (60 + 2 * j)), .ref (pl 203)] _ _ _ _
      refine pm_i_callv (k := (pl (60 + 2 * j))) (T2 := pm_mm47) pm_a111_54 rfl rfl rfl (cg_o hj) ⟨Nat.le_of_ble_eq_true rfl, Nat.le_of_ble_eq_true rfl, rfl, by decide +kernel⟩ ?_
      show pm_E none _ _ 0 [(0, .ref (pl (60 + 2 * j))), (1, .int (iI i))] [] _ _ _ _
      refine C_at hW hj hcj hok.1 hok.2.1 ⟨by omega, by omega⟩ ?_
      refine pm_e_top (y := iI (y.2.2 i)) (congrArg iI (by unfold atI; rw [if_pos ⟨by omega, by omega⟩])) ?_
      show pm_E _ _ _ 57 [(0, .ref (pl 203)), (1, .ref (pl (60 + 2 * j))), (2, .int (iI x)), (3, .int (iI i))] [.int (iI (y.2.2 i)), .ref (pl 203)] _ _ _ _
      refine pm_e_sim pm_a111_57 rfl ?_
      show pm_E _ _ _ 58 [(0, .ref (pl 203)), (1, .ref (pl (60 + 2 * j))), (2, .int (iI x)), (3, .int (iI i))] [.int (iI i), .int (iI (y.2.2 i)), .ref (pl 203)] _ _ _ _
      refine pm_e_sim pm_a111_58 rfl ?_
      show pm_E _ _ _ 59 [(0, .ref (pl 203)), (1, .ref (pl (60 + 2 * j))), (2, .int (iI x)), (3, .int (iI i))] [.ref (pl 203), .int (iI i), .int (iI (y.2.2 i)), .ref (pl 203)] _ _ _ _
      refine pm_i_callv (k := (pl 203)) (T2 := pm_mm116) pm_a111_59 rfl rfl rfl (cg_203 hW h203) ⟨Nat.le_of_ble_eq_true rfl, Nat.le_of_ble_eq_true rfl, rfl, by decide +kernel⟩ ?_
      show pm_E none _ _ 0 [(0, .ref (pl 203))] [] _ _ _ _
      have hp9 : 0 < s 21 := by
        by_cases c9 : 0 < s 21
        · exact c9
        · exfalso; rw [show (s 21).toNat = 0 by omega] at hf9; have z9 : i = y.1 := hf9; omega
      rw [ws9_top hp9] at hT
      refine C_znext hW h203 hp9 (by omega) ?_
      show pm_E _ _ _ 62 [(0, .ref (pl 203)), (1, .ref (pl (60 + 2 * j))), (2, .int (iI x)), (3, .int (iI i))] [.int (iI (a 15 (s 21 - 1))), .int (iI i), .int (iI (y.2.2 i)), .ref (pl 203)] _ _ _ _
      refine pm_i_callv (k := (pl 203)) (T2 := pm_mm117) pm_a111_62 rfl rfl rfl (cg_203 hW h203) ⟨Nat.le_of_ble_eq_true rfl, Nat.le_of_ble_eq_true rfl, rfl, by decide +kernel⟩ ?_
      show pm_E none _ _ 0 [(0, .ref (pl 203)), (1, .int (iI (y.2.2 i))), (2, .int (iI i)), (3, .int (iI (a 15 (s 21 - 1))))] [] _ _ _ _
      refine C_ztypeNode (s := updS s 21 (s 21 - 1)) (a := a) (g := y.2.2) (D := a0 2) (N := y.1) hW h203 hn rfl (hcell i (by omega) (by omega)) (fA 2 (by omega)) hD1 (by show s 22 = 1; omega) (by show 0 ≤ s 21 - 1; omega) hT (fun s1 a1 rt1 hT1 hw1 fs1 fa1 => ?_)
      show pm_E _ _ _ 65 [(0, .ref (pl 203)), (1, .ref (pl (60 + 2 * j))), (2, .int (iI x)), (3, .int (iI i))] [] _ _ _ _
      refine pm_e_inc (y := iI (i + 1)) pm_a111_65 rfl (iI_add _ _) (by decide +kernel) rfl ?_
      show pm_E _ _ _ 68 [(0, .ref (pl 203)), (1, .ref (pl (60 + 2 * j))), (2, .int (iI x)), (3, .int (iI (i + 1)))] [] _ _ _ _
      refine pm_e_goto pm_a111_68 rfl ?_
      show pm_E _ _ _ 43 [(0, .ref (pl 203)), (1, .ref (pl (60 + 2 * j))), (2, .int (iI x)), (3, .int (iI (i + 1)))] [] _ _ _ _
      exact ih (i + 1) s1 a1 (by omega) (by omega) (fun i h1 h2 => by rw [fs1 i h1 h2]; simp [updS, h2, fS i h1 h2]) (fun i h => by rw [fa1 i (by omega) (by omega) (by omega) (by omega) (by omega) (by omega)]; exact fA i h) hw1 ⟨rt1, hT1⟩ k (by omega)
set_option maxHeartbeats 4000000 in
set_option maxRecDepth 100000 in
theorem C_zlengthOfType {d n : Nat} {kd pl : Nat → Nat} {s : Nat → Int} {a : Nat → Int → Int} {c : Nat → cdt} {M : List va_E} {Q : Option Value → List va_E → Nat → Nat → Prop} {j : Nat} {ft : Nat} (hW : wf n kd pl) (h203 : al n kd pl 203) (hj : j < 38 ∧ al n kd pl (60 + 2 * j)) (hj4 : j ≠ 4) (hj5 : j ≠ 5) (hok : okx (rm j) (c j)) (hlen : (c j).1 ≤ 500) (hin : ∀ q, in32 (a 1 q)) (ht : tm (c j).2.2 ft 0 0 (c j).1) (ho : tyO s c) (k : ∀ a1 s' a' c' r, shM a a1 → tyF s a1 c s' a' c' → in32 r → (∃ cc, tyR (TYP (c j).2.2 (c j).1) r cc ∧ ((r < 0 ∧ c' 5 = c 5) ∨ (0 ≤ r ∧ (c' 5).1 = r ∧ rg (c' 5).2.2 r.toNat 0 = cc))) → Q (some (.int (iI r))) (ch n kd pl s' a' c' M) 0 0) : pm_E none (d + 5) pm_mm111 0 [(0, .ref (pl 203)), (1, .ref (pl (60 + 2 * j)))] [] (ch n kd pl s a c M) 0 0 Q := by
  have rbj := rm_b j
  obtain ⟨_, _, _, _⟩ := id hok
  refine pm_e_sim pm_a111_0 rfl ?_
  show pm_E _ _ _ 1 [(0, .ref (pl 203)), (1, .ref (pl (60 + 2 * j)))] [.ref (pl 203)] _ _ _ _
  refine pm_e_sim pm_a111_1 rfl ?_
  refine pm_e_top (y := iI 0) (by decide +kernel) ?_
  show pm_E _ _ _ 2 [(0, .ref (pl 203)), (1, .ref (pl (60 + 2 * j)))] [.int (iI 0), .ref (pl 203)] _ _ _ _
  refine pm_i_put pm_a111_2 rfl (cg_203 hW h203) rfl (Nat.le_of_ble_eq_true rfl) (Or.inl rfl) (cw_20 hW h203 0) ?_
  show pm_E _ _ _ 5 [(0, .ref (pl 203)), (1, .ref (pl (60 + 2 * j)))] [] _ _ _ _
  refine pm_e_sim pm_a111_5 rfl ?_
  show pm_E _ _ _ 6 [(0, .ref (pl 203)), (1, .ref (pl (60 + 2 * j)))] [.ref (pl 203)] _ _ _ _
  refine pm_e_sim pm_a111_6 rfl ?_
  refine pm_e_top (y := iI 0) (by decide +kernel) ?_
  show pm_E _ _ _ 7 [(0, .ref (pl 203)), (1, .ref (pl (60 + 2 * j)))] [.int (iI 0), .ref (pl 203)] _ _ _ _
  refine pm_i_put pm_a111_7 rfl (cg_203 hW h203) rfl (Nat.le_of_ble_eq_true rfl) (Or.inl rfl) (cw_21 hW h203 0) ?_
  show pm_E _ _ _ 10 [(0, .ref (pl 203)), (1, .ref (pl (60 + 2 * j)))] [] _ _ _ _
  refine pm_e_sim pm_a111_10 rfl ?_
  show pm_E _ _ _ 11 [(0, .ref (pl 203)), (1, .ref (pl (60 + 2 * j)))] [.ref (pl 203)] _ _ _ _
  refine pm_i_get pm_a111_11 rfl (cg_203 hW h203) rfl ?_
  show pm_E _ _ _ 14 [(0, .ref (pl 203)), (1, .ref (pl (60 + 2 * j)))] [.ref (pl 6)] _ _ _ _
  refine pm_e_sim pm_a111_14 rfl ?_
  show pm_E _ _ _ 15 [(0, .ref (pl 203)), (1, .ref (pl (60 + 2 * j)))] [.ref (pl (60 + 2 * j)), .ref (pl 6)] _ _ _ _
  refine pm_e_sim pm_a111_15 rfl ?_
  refine pm_e_top (y := iI 0) (by decide +kernel) ?_
  show pm_E _ _ _ 16 [(0, .ref (pl 203)), (1, .ref (pl (60 + 2 * j)))] [.int (iI 0), .ref (pl (60 + 2 * j)), .ref (pl 6)] _ _ _ _
  refine pm_e_sim pm_a111_16 rfl ?_
  show pm_E _ _ _ 17 [(0, .ref (pl 203)), (1, .ref (pl (60 + 2 * j)))] [.ref (pl (60 + 2 * j)), .int (iI 0), .ref (pl (60 + 2 * j)), .ref (pl 6)] _ _ _ _
  refine pm_i_get pm_a111_17 rfl (cg_o hj) rfl ?_
  show pm_E _ _ _ 20 [(0, .ref (pl 203)), (1, .ref (pl (60 + 2 * j)))] [.int (iI ((c j).1)), .int (iI 0), .ref (pl (60 + 2 * j)), .ref (pl 6)] _ _ _ _
  refine pm_i_callv (k := (pl 6)) (T2 := pm_mm70) pm_a111_20 rfl rfl rfl (cg_6 hW) ⟨Nat.le_of_ble_eq_true rfl, Nat.le_of_ble_eq_true rfl, rfl, by decide +kernel⟩ ?_
  show pm_E none _ _ 0 [(0, .ref (pl 6)), (1, .ref (pl (60 + 2 * j))), (2, .int (iI 0)), (3, .int (iI ((c j).1)))] [] _ _ _ _
  refine C_measure hW hj rfl hok hin (by omega) (by omega) ht (fun E D h1 h2 h3 => ?_)
  have hm := shM_m (a := a) (D := D) h3
  have hD9 : updA (updA a 1 E) 2 D 2 = D := rfl
  generalize updA (updA a 1 E) 2 D = a1 at hm hD9 ⊢
  show pm_E _ _ _ 23 [(0, .ref (pl 203)), (1, .ref (pl (60 + 2 * j)))] [] _ _ _ _
  refine pm_e_sim pm_a111_23 rfl ?_
  show pm_E _ _ _ 24 [(0, .ref (pl 203)), (1, .ref (pl (60 + 2 * j)))] [.ref (pl 203)] _ _ _ _
  refine pm_i_callv (k := (pl 203)) (T2 := pm_mm112) pm_a111_24 rfl rfl rfl (cg_203 hW h203) ⟨Nat.le_of_ble_eq_true rfl, Nat.le_of_ble_eq_true rfl, rfl, by decide +kernel⟩ ?_
  show pm_E none _ _ 0 [(0, .ref (pl 203))] [] _ _ _ _
  refine C_zanyT (s := updS (updS s 20 0) 21 0) (a := a1) (rt := fun k => k) hW h203 GC_0 (show (0 : Int) < 2800 by omega) (fun s2 a2 rt2 hG2 eK2 tO2 gs2 ga2 => ?_)
  replace eK2 : s2 20 = 0 + 1 := eK2
  show pm_E _ _ _ 27 [(0, .ref (pl 203)), (1, .ref (pl (60 + 2 * j)))] [.int (iI 0)] _ _ _ _
  refine pm_e_sim pm_a111_27 rfl ?_
  show pm_E _ _ _ 28 [(0, .ref (pl 203)), (1, .ref (pl (60 + 2 * j))), (2, .int (iI 0))] [] _ _ _ _
  refine pm_e_sim pm_a111_28 rfl ?_
  show pm_E _ _ _ 29 [(0, .ref (pl 203)), (1, .ref (pl (60 + 2 * j))), (2, .int (iI 0))] [.ref (pl 203)] _ _ _ _
  refine pm_e_sim pm_a111_29 rfl ?_
  show pm_E _ _ _ 30 [(0, .ref (pl 203)), (1, .ref (pl (60 + 2 * j))), (2, .int (iI 0))] [.ref (pl 203), .ref (pl 203)] _ _ _ _
  refine pm_i_callv (k := (pl 203)) (T2 := pm_mm112) pm_a111_30 rfl rfl rfl (cg_203 hW h203) ⟨Nat.le_of_ble_eq_true rfl, Nat.le_of_ble_eq_true rfl, rfl, by decide +kernel⟩ ?_
  show pm_E none _ _ 0 [(0, .ref (pl 203))] [] _ _ _ _
  refine C_zanyT hW h203 hG2 (by omega) (fun s3 a3 rt3 hG3 eK3 tO3 gs3 ga3 => ?_)
  refine pm_e_top (y := iI 1) (congrArg iI (by omega)) ?_
  show pm_E _ _ _ 33 [(0, .ref (pl 203)), (1, .ref (pl (60 + 2 * j))), (2, .int (iI 0))] [.int (iI 1), .ref (pl 203)] _ _ _ _
  refine pm_i_put pm_a111_33 rfl (cg_203 hW h203) rfl (Nat.le_of_ble_eq_true rfl) (Or.inl rfl) (cw_22 hW h203 1) ?_
  show pm_E _ _ _ 36 [(0, .ref (pl 203)), (1, .ref (pl (60 + 2 * j))), (2, .int (iI 0))] [] _ _ _ _
  refine pm_e_sim pm_a111_36 rfl ?_
  show pm_E _ _ _ 37 [(0, .ref (pl 203)), (1, .ref (pl (60 + 2 * j))), (2, .int (iI 0))] [.ref (pl 203)] _ _ _ _
  refine pm_e_sim pm_a111_37 rfl ?_
  show pm_E _ _ _ 38 [(0, .ref (pl 203)), (1, .ref (pl (60 + 2 * j))), (2, .int (iI 0))] [.int (iI 0), .ref (pl 203)] _ _ _ _
  refine pm_i_callv (k := (pl 203)) (T2 := pm_mm115) pm_a111_38 rfl rfl rfl (cg_203 hW h203) ⟨Nat.le_of_ble_eq_true rfl, Nat.le_of_ble_eq_true rfl, rfl, by decide +kernel⟩ ?_
  show pm_E none _ _ 0 [(0, .ref (pl 203)), (1, .int (iI 0))] [] _ _ _ _
  have e21 : s3 21 = 0 := by rw [gs3 21 (by omega), gs2 21 (by omega)]; rfl
  refine C_zawaitT (s := updS s3 22 1) (a := a3) hW h203 (by show 0 ≤ s3 21; omega) (by show s3 21 < 501; omega) (fun s4 a4 ew4 ef4 gs4 ga4 => ?_)
  replace ew4 : s4 21 = s3 21 + 1 := ew4
  replace ef4 : a4 15 = updI (a3 15) (s3 21) 0 := ef4
  have e20 : s4 20 = 2 := by rw [show s4 20 = s3 20 from gs4 20 (by omega)]; omega
  have e22 : s4 22 = 1 := gs4 22 (by omega)
  show pm_E _ _ _ 41 [(0, .ref (pl 203)), (1, .ref (pl (60 + 2 * j))), (2, .int (iI 0))] [] _ _ _ _
  refine pm_e_sim pm_a111_41 rfl ?_
  refine pm_e_top (y := iI 0) (by decide +kernel) ?_
  show pm_E _ _ _ 42 [(0, .ref (pl 203)), (1, .ref (pl (60 + 2 * j))), (2, .int (iI 0))] [.int (iI 0)] _ _ _ _
  refine pm_e_sim pm_a111_42 rfl ?_
  show pm_E _ _ _ 43 [(0, .ref (pl 203)), (1, .ref (pl (60 + 2 * j))), (2, .int (iI 0)), (3, .int (iI 0))] [] _ _ _ _
  have fA4 : ∀ i, i < 9 → a4 i = a1 i := fun i h => by rw [ga4 i (by omega), ga3 i (by omega) (by omega) (by omega), ga2 i (by omega) (by omega) (by omega)]
  have fS4 : ∀ i, i < 20 → s4 i = s i := fun i h => by rw [gs4 i (by omega)]; simp only [updS]; rw [if_neg (by omega), gs3 i (by omega), gs2 i (by omega)]; simp only [updS]; rw [if_neg (by omega), if_neg (by omega)]
  have hd0 : dp (c j).2.2 (a4 2) ft 0 0 (c j).1 := by rw [fA4 2 (by omega), hD9]; exact h2
  have hlt := tm_lt ht
  have hG4 : GC 2 (a4 9) (a4 10) (a4 11) rt3 := by rw [ga4 9 (by omega), ga4 10 (by omega), ga4 11 (by omega), ← show s3 20 = 2 by omega]; exact hG3
  have o2 : opA (SOL (s2 20) (-1) (a2 9) (a2 10) rt2) (SOL 2 (-1) (a4 9) (a4 10) rt3) 1 := by rw [ga4 9 (by omega), ga4 10 (by omega), ← show s3 20 = 2 by omega]; exact opA_cg (by omega) tO3
  have hT := TI_beg (g := (c j).2.2) (D := a4 2) (n := (c j).1) (bn := a4 14) (FO9_of hd0 (n := 1) (Int.le_refl 0) ⟨(c j).1, ft, 0, ht, rfl⟩) (dp_head hd0) hG4 tO2 o2 (fun t k k0 k1 => by exfalso; have k2 : k < 0 := k1; omega)
  refine C_zlen_l (s0 := s4) (a0 := a4) (y := c j) (x := 0) (TY := fun u sh => ∃ f, HT (c j).2.2 f [] sh 0 (c j).1 u) hW h203 hj rfl hok hlen (fun q q0 q1 => ?_) (fun q q0 q1 => by have := dp_in hd0 q q0 q1; omega) e22 ((c j).1.toNat + 1) 0 s4 a4 (by omega) (by omega) (fun _ _ _ => rfl) (fun _ _ => rfl) (by omega) ⟨rt3, ?_⟩ (fun s5 a5 rt hs5 ha5 hw5 hw6 hT5 i5 => ?_) (by omega)
  · obtain ⟨fe, ke, e, te, hee, _⟩ := tm_sub ht q (by omega) (by omega)
    have hbd := tm_bd ht (by omega) q (by omega) (by omega)
    by_cases c2 : 2 ≤ (c j).2.2 q
    · have hlf := (tm_lf te c2).2
      by_cases c10 : 10 ≤ (c j).2.2 q
      · have := tm_dp_var ht hd0 q (by omega) (by omega) c10; omega
      · omega
    · omega
  · rw [e20, ef4, ew4, e21, ws9_put (by omega), ws9_0 (by omega)]; exact hT
  · obtain ⟨hT1, hT2⟩ := TI_end hT5
    obtain ⟨hG5, hK5, hKb5, _⟩ := id hT5
    replace hKb5 : 2 * s5 20 ≤ 11 * (c j).1 + 11 - 7 * (0 : Nat) := hKb5
    refine pm_e_sim pm_a111_71 rfl ?_
    show pm_E _ _ _ 72 [(0, .ref (pl 203)), (1, .ref (pl (60 + 2 * j))), (2, .int (iI 0)), (3, .int (iI i5))] [.ref (pl 203)] _ _ _ _
    refine pm_i_callv (k := (pl 203)) (T2 := pm_mm130) pm_a111_72 rfl rfl rfl (cg_203 hW h203) ⟨Nat.le_of_ble_eq_true rfl, Nat.le_of_ble_eq_true rfl, rfl, by decide +kernel⟩ ?_
    show pm_E none _ _ 0 [(0, .ref (pl 203))] [] _ _ _ _
    refine C_zhasCircle (rt := rt) hW h203 (by omega) hG5 (fun a6 fr6 hL6 => ⟨fun hno => ?_, fun hrk => ?_⟩)
    · skip
      show pm_E _ _ _ 75 [(0, .ref (pl 203)), (1, .ref (pl (60 + 2 * j))), (2, .int (iI 0)), (3, .int (iI i5))] [.int (iI 1)] _ _ _ _
      refine pm_e_iff pm_a111_75 rfl (by decide +kernel) ?_
      show pm_E _ _ _ 78 [(0, .ref (pl 203)), (1, .ref (pl (60 + 2 * j))), (2, .int (iI 0)), (3, .int (iI i5))] [] _ _ _ _
      refine pm_e_sim pm_a111_78 rfl ?_
      refine pm_e_top (y := iI (-4)) (by decide +kernel) ?_
      show pm_E _ _ _ 80 [(0, .ref (pl 203)), (1, .ref (pl (60 + 2 * j))), (2, .int (iI 0)), (3, .int (iI i5))] [.int (iI (-4))] _ _ _ _
      refine pm_e_ret pm_a111_80 rfl rfl rfl rfl rfl rfl rfl rfl ?_
      refine k a1 s5 a6 c (-4) hm ⟨fun i hi => by rw [hs5 i (by omega) (by omega)]; exact fS4 i hi, fun i hi => by rw [fr6 i (by omega) (by omega) (by omega), ha5 i hi]; exact fA4 i hi, fun _ _ _ => rfl, ho.1, ho.2.1, ⟨by omega, by omega⟩, ⟨by omega, by omega⟩, by rw [hs5 22 (by omega) (by omega), e22]; decide⟩ (by decide) ?_
      exact ⟨[], ⟨none, prT9_no hno hT2, Or.inl ⟨rfl, rfl⟩⟩, Or.inl ⟨by omega, rfl⟩⟩
    · skip
      show pm_E _ _ _ 75 [(0, .ref (pl 203)), (1, .ref (pl (60 + 2 * j))), (2, .int (iI 0)), (3, .int (iI i5))] [.int (iI 0)] _ _ _ _
      refine pm_e_ift pm_a111_75 rfl (by decide +kernel) ?_
      show pm_E _ _ _ 81 [(0, .ref (pl 203)), (1, .ref (pl (60 + 2 * j))), (2, .int (iI 0)), (3, .int (iI i5))] [] _ _ _ _
      refine pm_e_sim pm_a111_81 rfl ?_
      show pm_E _ _ _ 82 [(0, .ref (pl 203)), (1, .ref (pl (60 + 2 * j))), (2, .int (iI 0)), (3, .int (iI i5))] [.ref (pl 203)] _ _ _ _
      refine pm_e_sim pm_a111_82 rfl ?_
      show pm_E _ _ _ 83 [(0, .ref (pl 203)), (1, .ref (pl (60 + 2 * j))), (2, .int (iI 0)), (3, .int (iI i5))] [.int (iI 0), .ref (pl 203)] _ _ _ _
      refine pm_i_callv (k := (pl 203)) (T2 := pm_mm135) pm_a111_83 rfl rfl rfl (cg_203 hW h203) ⟨Nat.le_of_ble_eq_true rfl, Nat.le_of_ble_eq_true rfl, rfl, by decide +kernel⟩ ?_
      show pm_E none _ _ 0 [(0, .ref (pl 203)), (1, .int (iI 0))] [] _ _ _ _
      obtain ⟨rh, hrk⟩ := hrk
      have hgr := GI_gr hG5.2
      have hpt : prT9 _ (some (cnf [] (Uf (-1) (a5 9) (a5 10) rt rh 0))) := prT9_ok hgr hrk (by omega) (by omega) hT1 hT2 (Nat.lt_succ_self _)
      have g9 := fr6 9 (by omega) (by omega) (by omega)
      have g10 := fr6 10 (by omega) (by omega) (by omega)
      have hG6 : GC (s5 20) (a6 9) (a6 10) (a6 11) rt := by rw [g9, g10]; exact ⟨hL6, hG5.2⟩
      refine C_ztellType (U := Uf (-1) (a5 9) (a5 10) rt rh) hW h203 (by omega) hG6 (by rw [g9, g10]; exact fun x z y => ⟨fun c => Uf_n (K := s5 20) c, fun c => Uf_a hgr hrk z y c, Uf_pos hgr hrk z y⟩) ho.1 ⟨by omega, by omega⟩ (fun s7 a7 c7 l fs7 fa7 fc7 hmd7 hw7 hres => ?_)
      have rm4 : rm 4 = 500 := rfl
      have rm5 : rm 5 = 500 := rfl
      have e720 := fs7 20 (by omega)
      have e722 : s7 22 = 1 := by rw [fs7 22 (by omega), hs5 22 (by omega) (by omega)]; exact e22
      have hok4 := hmd7.1
      obtain ⟨_, _, _, _⟩ := id hok4
      show pm_E _ _ _ 86 [(0, .ref (pl 203)), (1, .ref (pl (60 + 2 * j))), (2, .int (iI 0)), (3, .int (iI i5))] [] _ _ _ _
      refine pm_e_sim pm_a111_86 rfl ?_
      show pm_E _ _ _ 87 [(0, .ref (pl 203)), (1, .ref (pl (60 + 2 * j))), (2, .int (iI 0)), (3, .int (iI i5))] [.ref (pl 203)] _ _ _ _
      refine pm_i_get pm_a111_87 rfl (cg_203 hW h203) rfl ?_
      show pm_E _ _ _ 90 [(0, .ref (pl 203)), (1, .ref (pl (60 + 2 * j))), (2, .int (iI 0)), (3, .int (iI i5))] [.ref (pl (60 + 2 * 4))] _ _ _ _
      refine pm_i_get pm_a111_90 rfl (cg_o (cj4 hW h203)) rfl ?_
      show pm_E _ _ _ 93 [(0, .ref (pl 203)), (1, .ref (pl (60 + 2 * j))), (2, .int (iI 0)), (3, .int (iI i5))] [.int (iI ((c7 4).2.1))] _ _ _ _
      refine pm_i_eq (t := 99) pm_a111_93 rfl ⟨by omega, by omega⟩ (fun h_101 => ?_) (fun h_101 => ?_)
      · skip
        show pm_E _ _ _ 99 [(0, .ref (pl 203)), (1, .ref (pl (60 + 2 * j))), (2, .int (iI 0)), (3, .int (iI i5))] [] _ _ _ _
        refine pm_e_sim pm_a111_99 rfl ?_
        show pm_E _ _ _ 100 [(0, .ref (pl 203)), (1, .ref (pl (60 + 2 * j))), (2, .int (iI 0)), (3, .int (iI i5))] [.ref (pl 203)] _ _ _ _
        refine pm_i_get pm_a111_100 rfl (cg_203 hW h203) rfl ?_
        show pm_E _ _ _ 103 [(0, .ref (pl 203)), (1, .ref (pl (60 + 2 * j))), (2, .int (iI 0)), (3, .int (iI i5))] [.ref (pl (60 + 2 * 5))] _ _ _ _
        refine pm_i_callv (k := (pl (60 + 2 * 5))) (T2 := pm_mm13) pm_a111_103 rfl rfl rfl (cg_o (cj5 hW h203)) ⟨Nat.le_of_ble_eq_true rfl, Nat.le_of_ble_eq_true rfl, rfl, by decide +kernel⟩ ?_
        show pm_E none _ _ 0 [(0, .ref (pl (60 + 2 * 5)))] [] _ _ _ _
        refine C_clear hW (cj5 hW h203) (by rw [fc7 5 (by omega)]; exact ho.2.1) (fun y1 g1 => ?_)
        show pm_E _ _ _ 106 [(0, .ref (pl 203)), (1, .ref (pl (60 + 2 * j))), (2, .int (iI 0)), (3, .int (iI i5))] [] _ _ _ _
        refine pm_e_sim pm_a111_106 rfl ?_
        show pm_E _ _ _ 107 [(0, .ref (pl 203)), (1, .ref (pl (60 + 2 * j))), (2, .int (iI 0)), (3, .int (iI i5))] [.ref (pl 203)] _ _ _ _
        refine pm_i_get pm_a111_107 rfl (cg_203 hW h203) rfl ?_
        show pm_E _ _ _ 110 [(0, .ref (pl 203)), (1, .ref (pl (60 + 2 * j))), (2, .int (iI 0)), (3, .int (iI i5))] [.ref (pl (60 + 2 * 5))] _ _ _ _
        refine pm_e_sim pm_a111_110 rfl ?_
        show pm_E _ _ _ 111 [(0, .ref (pl 203)), (1, .ref (pl (60 + 2 * j))), (2, .int (iI 0)), (3, .int (iI i5))] [.ref (pl 203), .ref (pl (60 + 2 * 5))] _ _ _ _
        refine pm_i_get pm_a111_111 rfl (cg_203 hW h203) rfl ?_
        show pm_E _ _ _ 114 [(0, .ref (pl 203)), (1, .ref (pl (60 + 2 * j))), (2, .int (iI 0)), (3, .int (iI i5))] [.ref (pl (60 + 2 * 4)), .ref (pl (60 + 2 * 5))] _ _ _ _
        refine pm_i_callv (k := (pl (60 + 2 * 5))) (T2 := pm_mm58) pm_a111_114 rfl rfl rfl (cg_o (cj5 hW h203)) ⟨Nat.le_of_ble_eq_true rfl, Nat.le_of_ble_eq_true rfl, rfl, by decide +kernel⟩ ?_
        show pm_E none _ _ 0 [(0, .ref (pl (60 + 2 * 5))), (1, .ref (pl (60 + 2 * 4)))] [] _ _ _ _
        refine C_putAll hW (cj5 hW h203) (cj4 hW h203) (updC_n (by omega)) hok4 (by rw [updC_at]; exact g1) (fun y2 g2 => ?_)
        obtain ⟨_, _, _, _⟩ := id g2.1
        show pm_E _ _ _ 117 [(0, .ref (pl 203)), (1, .ref (pl (60 + 2 * j))), (2, .int (iI 0)), (3, .int (iI i5))] [] _ _ _ _
        refine pm_e_sim pm_a111_117 rfl ?_
        show pm_E _ _ _ 118 [(0, .ref (pl 203)), (1, .ref (pl (60 + 2 * j))), (2, .int (iI 0)), (3, .int (iI i5))] [.ref (pl 203)] _ _ _ _
        refine pm_i_get pm_a111_118 rfl (cg_203 hW h203) rfl ?_
        show pm_E _ _ _ 121 [(0, .ref (pl 203)), (1, .ref (pl (60 + 2 * j))), (2, .int (iI 0)), (3, .int (iI i5))] [.ref (pl (60 + 2 * 5))] _ _ _ _
        refine pm_i_get pm_a111_121 rfl (cg_o (cj5 hW h203)) rfl ?_
        refine pm_e_top (y := iI ((y2).1)) (congrArg (fun z : cdt => iI z.1) updC_at) ?_
        show pm_E _ _ _ 124 [(0, .ref (pl 203)), (1, .ref (pl (60 + 2 * j))), (2, .int (iI 0)), (3, .int (iI i5))] [.int (iI ((y2).1))] _ _ _ _
        refine pm_e_ret pm_a111_124 rfl rfl rfl rfl rfl rfl rfl rfl ?_
        obtain ⟨hl1, hl2, hl3⟩ : l.length ≤ 500 ∧ (c7 4).1 = l.length ∧ rg (c7 4).2.2 l.length 0 = l := by
          rcases hmd7.2 with y | y <;> rw [rm4] at y
          · exact ⟨y.1, y.2.2.1, y.2.2.2⟩
          · omega
        have hT9 : l = cnf [] (Uf (-1) (a5 9) (a5 10) rt rh 0) := by
          rcases hres with z | z
          · exact z.2
          · omega
        rw [List.nil_append, hl2, show ((l.length : Nat) : Int).toNat = l.length by omega, hl3] at g2
        obtain ⟨hy1, hy2⟩ : y2.1 = l.length ∧ rg y2.2.2 l.length 0 = l := by
          rcases g2.2 with y | y <;> rw [rm5] at y
          · exact ⟨y.2.2.1, y.2.2.2⟩
          · omega
        refine k a1 s7 a7 _ (y2.1) hm ⟨(fun i hi => by rw [fs7 i (by omega), hs5 i (by omega) (by omega)]; exact fS4 i hi), (fun i hi => by rw [fa7 i (by omega) (by omega) (by omega), fr6 i (by omega) (by omega) (by omega), ha5 i hi]; exact fA4 i hi), fun i h4 h5 => by rw [updC_n h5, updC_n h5]; exact fc7 i h4, by rw [updC_n (by omega), updC_n (by omega)]; exact hok4, by rw [updC_at]; exact g2.1, ⟨by omega, by omega⟩, ⟨by omega, by omega⟩, by rw [e722]; decide⟩ ⟨by omega, by omega⟩ ?_
        refine ⟨l, ⟨_, hpt, Or.inr ⟨_, rfl, Or.inl ⟨by rw [← hT9]; omega, by rw [← hT9]; exact hy1, hT9⟩⟩⟩, Or.inr ⟨by omega, by rw [updC_at], ?_⟩⟩
        rw [updC_at, hy1, show ((l.length : Nat) : Int).toNat = l.length by omega]
        exact hy2
      · skip
        show pm_E _ _ _ 96 [(0, .ref (pl 203)), (1, .ref (pl (60 + 2 * j))), (2, .int (iI 0)), (3, .int (iI i5))] [] _ _ _ _
        refine pm_e_sim pm_a111_96 rfl ?_
        refine pm_e_top (y := iI (-3)) (by decide +kernel) ?_
        show pm_E _ _ _ 98 [(0, .ref (pl 203)), (1, .ref (pl (60 + 2 * j))), (2, .int (iI 0)), (3, .int (iI i5))] [.int (iI (-3))] _ _ _ _
        refine pm_e_ret pm_a111_98 rfl rfl rfl rfl rfl rfl rfl rfl ?_
        refine k a1 s7 a7 c7 (-3) hm ⟨(fun i hi => by rw [fs7 i (by omega), hs5 i (by omega) (by omega)]; exact fS4 i hi), (fun i hi => by rw [fa7 i (by omega) (by omega) (by omega), fr6 i (by omega) (by omega) (by omega), ha5 i hi]; exact fA4 i hi), fun i h4 _ => fc7 i h4, hok4, by rw [fc7 5 (by omega)]; exact ho.2.1, ⟨by omega, by omega⟩, ⟨by omega, by omega⟩, by rw [e722]; decide⟩ (by decide) ?_
        have hT9 : 500 < (cnf [] (Uf (-1) (a5 9) (a5 10) rt rh 0)).length := by
          rcases hres with z | z
          · exfalso; rcases hmd7.2 with y | y <;> rw [rm4] at y <;> omega
          · exact z.2
        exact ⟨[], ⟨_, hpt, Or.inr ⟨_, rfl, Or.inr ⟨hT9, rfl⟩⟩⟩, Or.inl ⟨by omega, fc7 5 (by omega)⟩⟩
