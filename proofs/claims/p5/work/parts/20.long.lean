/-! LONGS AS Int -/
def lI (z : Int) : Int64 := Int64.ofInt z
abbrev in64 (z : Int) : Prop := -9223372036854775808 ≤ z ∧ z < 9223372036854775808
theorem lI_t {z : Int} (h : in64 z) : (lI z).toInt = z := Int64.toInt_ofInt_of_le h.1 h.2
theorem lI_add (a b : Int) : lI a + lI b = lI (a + b) := (Int64.ofInt_add a b).symm
theorem lI_sub (a b : Int) : lI a - lI b = lI (a - b) := (Int64.ofInt_sub a b).symm
theorem lI_mul (a b : Int) : lI a * lI b = lI (a * b) := (Int64.ofInt_mul a b).symm
theorem iI_l {z : Int} (h : in32 z) : (iI z).toInt64 = lI z := by
  apply Int64.toInt_inj.mp
  rw [Int32.toInt_toInt64, iI_t h, lI_t ⟨by omega, by omega⟩]
theorem lI_cmp {a b : Int} (ha : in64 a) (hb : in64 b) : (a < b → lg_cmp (lI a) (lI b) = iI (-1)) ∧ (a = b → lg_cmp (lI a) (lI b) = iI 0) ∧ (b < a → lg_cmp (lI a) (lI b) = iI 1) := by
  unfold lg_cmp
  refine ⟨fun h => ?_, fun h => ?_, fun h => ?_⟩
  · rw [if_neg (fun q => by have := Int64.lt_iff_toInt_lt.mp q; rw [lI_t ha, lI_t hb] at this; omega), if_neg (fun q => by have := congrArg Int64.toInt q; rw [lI_t ha, lI_t hb] at this; omega)]
    rfl
  · rw [if_neg (fun q => by have := Int64.lt_iff_toInt_lt.mp q; rw [lI_t ha, lI_t hb] at this; omega), if_pos (by rw [h])]
    rfl
  · rw [if_pos (Int64.lt_iff_toInt_lt.mpr (by rw [lI_t ha, lI_t hb]; exact h))]
    rfl
section PML
variable {scr : Option (Nat × (Nat → Int32))} {d : Nat} {T : pm_M} {pc : Nat} {lv : pm_L} {st : List Value} {ph : List va_E} {nc ns : Nat} {Q : Option Value → List va_E → Nat → Nat → Prop} {len : Nat} {a b : Int}
/-- lcmp: three ways on -/
theorem pm_l_cmp (h0 : pm_as (pm_cd T) pc = some (.lcmp, len)) (ha : in64 a) (hb : in64 b) (k1 : a < b → pm_E scr d T (pc + 1) lv (.int (iI (-1)) :: st) ph nc ns Q) (k2 : a = b → pm_E scr d T (pc + 1) lv (.int (iI 0) :: st) ph nc ns Q) (k3 : b < a → pm_E scr d T (pc + 1) lv (.int (iI 1) :: st) ph nc ns Q) : pm_E scr d T pc lv (.long (lI b) :: .long (lI a) :: st) ph nc ns Q := by
  obtain ⟨c1, c2, c3⟩ := lI_cmp ha hb
  refine pm_e_sim h0 rfl ?_
  rcases Int.lt_trichotomy a b with h | h | h
  · exact pm_e_top (c1 h) (k1 h)
  · exact pm_e_top (c2 h) (k2 h)
  · exact pm_e_top (c3 h) (k3 h)
theorem pm_l_top {x y : Int64} (h : x = y) (k : pm_E scr d T pc lv (.long y :: st) ph nc ns Q) : pm_E scr d T pc lv (.long x :: st) ph nc ns Q := by
  rw [h]
  exact k
end PML
