/-! every script -/
def pm_fin (v : Option Value) (_ : List va_E) (c n : Nat) : Prop := v = some (.int 1) ∧ c ≤ 600000 ∧ n ≤ 7302250
theorem pm_all (L : Nat) (hL : L ≤ 6) (xs : Nat → Int32) : pm_E (some (L, xs)) 11 pm_mm0 0 [(0, .retAddr 0)] [] [] 0 0 pm_fin := by
  refine pm_start _ ?_
  have hQ : ∀ ph c n, c ≤ 600000 → n ≤ 7302250 → pm_fin (some (.int 1)) ph c n := fun _ _ _ h1 h2 => ⟨rfl, h1, h2⟩
  rcases (show L = 0 ∨ L = 1 ∨ L = 2 ∨ L = 3 ∨ L = 4 ∨ L = 5 ∨ L = 6 by omega) with rfl | rfl | rfl | rfl | rfl | rfl | rfl
  · exact pm_short0 xs hQ
  · exact pm_short1 xs hQ
  · exact pm_short2 xs hQ
  · exact pm_short3 xs hQ
  · exact pm_short4 xs hQ
  · exact pm_short5 xs hQ
  · refine pm_switch xs ?_
    obtain ⟨j, hj, e⟩ := pk_andE (xs 0) (m := 31) 5 (by decide +kernel)
    rw [e]
    have hj : j < 32 := hj
    rcases (show j = 0 ∨ j = 1 ∨ j = 2 ∨ j = 3 ∨ j = 4 ∨ j = 5 ∨ j = 6 ∨ j = 7 ∨ j = 8 ∨ j = 9 ∨ j = 10 ∨ j = 11 ∨ j = 12 ∨ j = 13 ∨ j = 14 ∨ j = 15 ∨ j = 16 ∨ j = 17 ∨ j = 18 ∨ j = 19 ∨ j = 20 ∨ j = 21 ∨ j = 22 ∨ j = 23 ∨ j = 24 ∨ j = 25 ∨ j = 26 ∨ j = 27 ∨ j = 28 ∨ j = 29 ∨ j = 30 ∨ j = 31 by omega) with rfl | rfl | rfl | rfl | rfl | rfl | rfl | rfl | rfl | rfl | rfl | rfl | rfl | rfl | rfl | rfl | rfl | rfl | rfl | rfl | rfl | rfl | rfl | rfl | rfl | rfl | rfl | rfl | rfl | rfl | rfl | rfl
    · exact pm_op0 xs hQ
    · exact pm_op1 xs hQ
    · exact pm_op2 xs hQ
    · exact pm_op3 xs hQ
    · exact pm_op4 xs hQ
    · exact pm_op5 xs hQ
    · exact pm_op6 xs hQ
    · exact pm_op7 xs hQ
    · exact pm_op8 xs hQ
    · exact pm_op9 xs hQ
    · exact pm_op10 xs hQ
    · exact pm_op11 xs hQ
    · exact pm_op12 xs hQ
    · exact pm_op13 xs hQ
    · exact pm_op14 xs hQ
    · exact pm_op15 xs hQ
    · exact pm_op16 xs hQ
    · exact pm_op17 xs hQ
    · exact pm_op18 xs hQ
    · exact pm_op19 xs hQ
    · exact pm_op20 xs hQ
    · exact pm_op21 xs hQ
    · exact pm_op22 xs hQ
    · exact pm_op23 xs hQ
    · exact pm_op24 xs hQ
    · exact pm_op25 xs hQ
    · exact pm_op26 xs hQ
    · exact pm_op27 xs hQ
    · exact pm_op28 xs hQ
    · exact pm_op29 xs hQ
    · exact pm_op30 xs hQ
    · exact pm_op31 xs hQ
