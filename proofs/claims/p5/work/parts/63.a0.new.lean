/-! THE CLASS: a Code that is made: its two cells behind the others -/
def kdN (kd : Nat → Nat) (n j : Nat) : Nat → Nat := fun q => if q = n then 60 + 2 * j else if q = n + 1 then 61 + 2 * j else kd q
def plN (pl : Nat → Nat) (n j : Nat) : Nat → Nat := fun k => if k = 60 + 2 * j then n else if k = 61 + 2 * j then n + 1 else pl k
section NEW
variable {n : Nat} {kd pl : Nat → Nat} {s : Nat → Int} {a : Nat → Int → Int} {c : Nat → cdt} {M : List va_E} {j : Nat}
theorem plN_o {k : Nat} (h : k ≠ 60 + 2 * j) (h1 : k ≠ 61 + 2 * j) : plN pl n j k = pl k := by unfold plN; rw [if_neg h, if_neg h1]
theorem plN_0 : plN pl n j (60 + 2 * j) = n := if_pos rfl
theorem plN_1 : plN pl n j (61 + 2 * j) = n + 1 := by unfold plN; rw [if_neg (by omega), if_pos rfl]
theorem kdN_o {q : Nat} (h : q < n) : kdN kd n j q = kd q := by unfold kdN; rw [if_neg (by omega), if_neg (by omega)]
theorem kdN_0 : kdN kd n j n = 60 + 2 * j := if_pos rfl
theorem kdN_1 : kdN kd n j (n + 1) = 61 + 2 * j := by unfold kdN; rw [if_neg (by omega), if_pos rfl]
theorem kc_new {x : cdt} (hj : 6 ≤ j ∧ j < 38) {k : Nat} (h3 : k ≠ 3) (h0 : k ≠ 60 + 2 * j) (h1 : k ≠ 61 + 2 * j) : kc (plN pl n j) s a (updC c j x) M k = kc pl s a c M k := by
  have e : ∀ i, i < 72 ∨ 199 < i → plN pl n j i = pl i := fun i hi => plN_o (by omega) (by omega)
  unfold kc
  by_cases k18 : k < 18
  · rw [if_pos k18, if_pos k18]
    simp only [cf0, cf1, cf6, cf9, cf13, cf15, e 1 (by omega), e 3 (by omega), e 60 (by omega), e 6 (by omega), e 9 (by omega), e 13 (by omega), e 15 (by omega), e 200 (by omega), e 203 (by omega), e 2 (by omega), e 7 (by omega), e 8 (by omega), e 10 (by omega), e 11 (by omega), e 12 (by omega), e 14 (by omega), e 62 (by omega)]
    split <;> first | rfl | (exfalso; exact h3 rfl) | (exfalso; omega)
  · rw [if_neg k18, if_neg k18]
    by_cases k50 : k < 50
    · rw [if_pos k50, if_pos k50]
    · rw [if_neg k50, if_neg k50]
      by_cases k60 : k < 60
      · rw [if_pos k60, if_pos k60]
      · rw [if_neg k60, if_neg k60]
        by_cases k200 : k < 200
        · rw [if_pos k200, if_pos k200]
          have hne : (k - 60) / 2 ≠ j := by omega
          unfold cfc
          rw [updC_n hne, plN_o (by omega) (by omega)]
        · rw [if_neg k200, if_neg k200]
          simp only [cf200, cf203, e 6 (by omega), e 201 (by omega), e 202 (by omega), e 64 (by omega), e 66 (by omega), e 204 (by omega), e 205 (by omega), e 206 (by omega), e 207 (by omega), e 208 (by omega), e 209 (by omega), e 210 (by omega), e 68 (by omega), e 70 (by omega)]
theorem ch_new (hW : wf n kd pl) (hj : 6 ≤ j ∧ j < 38) (hno : pl (60 + 2 * j) = 0) (hno1 : pl (61 + 2 * j) = 0) : (ch n kd pl s a c M ++ ([.inr (1, [.ref (n + 1), .int 0, .int 0]), .inl (0, 500, .inl (fun _ => 0))] : List va_E)).set (pl 3) (.inl (3, 32, .inr (.inr (.inr (.inr (cft (plN pl n j))))))) = ch (n + 2) (kdN kd n j) (plN pl n j) s a (updC c j (0, 0, fun _ => 0)) M := by
  have hl : (ch n kd pl s a c M).length = n := by unfold ch; rw [List.length_map, List.length_range]
  have p3 := (hW.2.1 3 (by decide))
  have k0 := (hW.2.1 0 (by decide)).2
  rw [hW.2.2.2.2.2.2] at k0
  have p3l := p3.1
  refine List.ext_getElem? (fun q => ?_)
  have hr : (ch (n + 2) (kdN kd n j) (plN pl n j) s a (updC c j (0, 0, fun _ => 0)) M)[q]? = if q < n + 2 then some (kc (plN pl n j) s a (updC c j (0, 0, fun _ => 0)) M (kdN kd n j q)) else none := by
    unfold ch
    by_cases hq : q < n + 2
    · rw [if_pos hq, List.getElem?_map, List.getElem?_range hq, Option.map_some]
    · rw [if_neg hq, List.getElem?_eq_none (by rw [List.length_map, List.length_range]; omega)]
  rw [hr, List.getElem?_set, List.length_append, hl]
  by_cases hq : pl 3 = q
  · subst hq
    rw [if_pos rfl, if_pos (by simp only [List.length_cons, List.length_nil]; omega), if_pos (by omega), kdN_o p3l, p3.2]
    rfl
  · rw [if_neg hq]
    by_cases q0 : q < n
    · rw [if_pos (by omega), List.getElem?_append_left (by omega), kdN_o q0, kc_new hj]
      · unfold ch
        rw [List.getElem?_map, List.getElem?_range q0, Option.map_some]
      · intro h; have := hW.1 q q0; rw [h] at this; exact hq this
      · intro h; have := hW.1 q q0; rw [h, hno] at this; rw [← this, k0] at h; omega
      · intro h; have := hW.1 q q0; rw [h, hno1] at this; rw [← this, k0] at h; omega
    · rw [List.getElem?_append_right (by omega), hl]
      by_cases q1 : q = n
      · subst q1
        rw [if_pos (by omega), kdN_0, show q - q = 0 by omega]
        unfold kc
        rw [if_neg (by omega), if_neg (by omega), if_neg (by omega), if_pos (by omega), if_pos (by omega), show (60 + 2 * j - 60) / 2 = j by omega]
        unfold cfc
        rw [plN_1, updC_at]
        rfl
      · by_cases q2 : q = n + 1
        · subst q2
          rw [if_pos (by omega), kdN_1, show n + 1 - n = 1 by omega]
          unfold kc
          rw [if_neg (by omega), if_neg (by omega), if_neg (by omega), if_pos (by omega), if_neg (by omega), show (61 + 2 * j - 60) / 2 = j by omega, updC_at, show rm j = 500 from if_neg (by omega)]
          rfl
        · rw [if_neg (by omega), List.getElem?_eq_none (by simp only [List.length_cons, List.length_nil]; omega)]
end NEW
