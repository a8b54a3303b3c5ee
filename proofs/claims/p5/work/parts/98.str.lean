/-! the two Strings at the start -/
def bS5 (b kR vR kT vT z : Nat) : Nat → Nat := fun n => match n with
  | 0 => b
  | 1 => kR
  | 2 => vR
  | 3 => kT
  | 4 => vT
  | _ => z
theorem va_Tc {ty : FieldType} {t N : Nat} {f g : Nat → Value} {A : Nat → Prop} {U : State} {H : Heap} (h : va_T ty t N f A U H) (e : ∀ j, j < N → f j = g j) : va_T ty t N g A U H := by
  obtain ⟨cell, h1, h2, h3, h4, h5, h6, h7⟩ := h
  exact ⟨cell, h1, h2, h3, h4, h5, fun j hj => by rw [h6 j hj, e j hj], h7⟩
theorem str_of {args : Array Value} {s : State} {own : String} {k : Nat} {A : Nat → Prop} (hA : ∀ a : Nat, a < s.heap.size → ¬ A a) (hex : (Cond.exactly (.string own k) "java/lang/String").before args s = true) (hco : (Cond.eq (.field (.string own k) "java/lang/String" "coder" "B") (.int 0)).before args s = true)
    (har : (Cond.arrayOf (.field (.string own k) "java/lang/String" "value" "[B") .byte).before args s = true) (hle : (Cond.eq (.length (.field (.string own k) "java/lang/String" "value" "[B")) (.int 5)).before args s = true)
    (e0 : (Cond.eq (.elem (.field (.string own k) "java/lang/String" "value" "[B") (.int 0)) (.int 83)).before args s = true) (e1 : (Cond.eq (.elem (.field (.string own k) "java/lang/String" "value" "[B") (.int 1)) (.int 75)).before args s = true) (e2 : (Cond.eq (.elem (.field (.string own k) "java/lang/String" "value" "[B") (.int 2)) (.int 73)).before args s = true) (e3 : (Cond.eq (.elem (.field (.string own k) "java/lang/String" "value" "[B") (.int 3)) (.int 70)).before args s = true) (e4 : (Cond.eq (.elem (.field (.string own k) "java/lang/String" "value" "[B") (.int 4)) (.int 88)).before args s = true) :
    ∃ q v : Nat, (Term.string own k).eval args s none [] s = some (.ref q) ∧ va_O "java/lang/String" q A s s.heap ∧ va_OF "java/lang/String" "coder" "B" (.int 0) q A s s.heap ∧ va_OF "java/lang/String" "value" "[B" (.ref v) q A s s.heap ∧ va_T .byte v 5 (fun j => .int (pm_b5 j)) A s s.heap := by
  have i0 : ∀ i : Nat, i < 1 → i = 0 := fun i hi => by omega
  have a1 : ∀ i : Nat, i < 1 → ([5] : List Nat).getD i 0 < 2 ^ 31 := fun i hi => by
    rw [i0 i hi]
    decide
  have a2 : ∀ i : Nat, i < 1 → (Cond.eq (.length (.field (.string own k) "java/lang/String" "value" "[B")) (.int (Int32.ofNat (([5] : List Nat).getD i 0)))).before args s = true := fun i hi => by
    rw [i0 i hi]
    exact hle
  have a3 : ∀ i : Nat, i < 1 → ∀ j : Nat, j < ([5] : List Nat).getD i 0 → (Cond.eq (.elem (.field (.string own k) "java/lang/String" "value" "[B") (.int (Int32.ofNat j))) (.int ((([[83, 75, 73, 70, 88]] : List (List Int32)).getD i []).getD j 0))).before args s = true := fun i hi j hj => by
    rw [i0 i hi] at hj ⊢
    have hj : j < 5 := hj
    rcases (by omega : j = 0 ∨ j = 1 ∨ j = 2 ∨ j = 3 ∨ j = 4) with h | h | h | h | h <;> subst h
    · exact e0
    · exact e1
    · exact e2
    · exact e3
    · exact e4
  obtain ⟨adK, adV, hS, hE⟩ := vk_Sof (args := args) (s := s) (N := 1) (tm := fun _ => .string own k) (len := [5]) (byt := [[83, 75, 73, 70, 88]]) (A := A) a1 (fun _ _ => hex) (fun _ _ => hco) (fun _ _ => har) a2 a3 (fun i j hi hj h => absurd ((i0 i hi).trans (i0 j hj).symm) h) hA
  obtain ⟨g1, g2, g3, g4⟩ := hS.1 0 (by decide)
  refine ⟨adK 0, adV 0, hE 0 (by decide), g1, g2, g3, va_Tc g4 (fun j hj => ?_)⟩
  have hj : j < 5 := hj
  rcases (by omega : j = 0 ∨ j = 1 ∨ j = 2 ∨ j = 3 ∨ j = 4) with h | h | h | h | h <;> subst h <;> rfl
