/-! THE CLASS: a Code that is made: what stands stays -/
section NEW
variable {n : Nat} {kd pl : Nat → Nat} {j : Nat}
theorem al_ne (hW : wf n kd pl) {k i : Nat} (h : al n kd pl k) (hi : pl i = 0) (hi0 : i ≠ 0) : k ≠ i := fun e => by
  subst e
  exact al_pos hW h hi0 hi
theorem al_new (hW : wf n kd pl) (hno : pl (60 + 2 * j) = 0) (hno1 : pl (61 + 2 * j) = 0) {k : Nat} (h : al n kd pl k) : al (n + 2) (kdN kd n j) (plN pl n j) k := by
  have e0 := al_ne hW h hno (by omega)
  have e1 := al_ne hW h hno1 (by omega)
  unfold al
  rw [plN_o e0 e1, kdN_o h.1]
  exact ⟨by have := h.1; omega, h.2⟩
theorem al_n0 : al (n + 2) (kdN kd n j) (plN pl n j) (60 + 2 * j) := by
  unfold al
  rw [plN_0, kdN_0]
  exact ⟨by omega, rfl⟩
theorem al_n1 : al (n + 2) (kdN kd n j) (plN pl n j) (61 + 2 * j) := by
  unfold al
  rw [plN_1, kdN_1]
  exact ⟨by omega, rfl⟩
theorem al_old {k : Nat} (h : al (n + 2) (kdN kd n j) (plN pl n j) k) (e0 : k ≠ 60 + 2 * j) (e1 : k ≠ 61 + 2 * j) : al n kd pl k := by
  unfold al at h ⊢
  rw [plN_o e0 e1] at h
  obtain ⟨h1, h2⟩ := h
  by_cases q0 : pl k < n
  · rw [kdN_o q0] at h2; exact ⟨q0, h2⟩
  · by_cases q1 : pl k = n
    · rw [q1, kdN_0] at h2; exact absurd h2.symm e0
    · have q2 : pl k = n + 1 := by omega
      rw [q2, kdN_1] at h2; exact absurd h2.symm e1
theorem wf_new (hW : wf n kd pl) (hj : 6 ≤ j ∧ j < 38) (hno : pl (60 + 2 * j) = 0) (hno1 : pl (61 + 2 * j) = 0) : wf (n + 2) (kdN kd n j) (plN pl n j) := by
  have up : ∀ {k : Nat}, al n kd pl k → al (n + 2) (kdN kd n j) (plN pl n j) k := fun h => al_new hW hno hno1 h
  have k0 := (hW.2.1 0 (by decide)).2
  rw [hW.2.2.2.2.2.2] at k0
  refine ⟨fun q hq => ?_, fun k hk => up (hW.2.1 k hk), fun i i38 hi => ?_, fun h k hk => up (hW.2.2.2.1 (al_old h (by omega) (by omega)) k hk), fun h k hk => up (hW.2.2.2.2.1 (al_old h (by omega) (by omega)) k hk), fun k hk => ?_, by rw [plN_o (by omega) (by omega)]; exact hW.2.2.2.2.2.2⟩
  · by_cases q0 : q < n
    · have hp := hW.1 q q0
      rw [kdN_o q0, plN_o]
      · exact hp
      · intro h; rw [h, hno] at hp; rw [← hp, k0] at h; omega
      · intro h; rw [h, hno1] at hp; rw [← hp, k0] at h; omega
    · by_cases q1 : q = n
      · subst q1; rw [kdN_0, plN_0]
      · have q2 : q = n + 1 := by omega
        subst q2; rw [kdN_1, plN_1]
  · by_cases e : i = j
    · subst e; exact al_n1
    · exact up (hW.2.2.1 i i38 (al_old hi (by omega) (by omega)))
  · by_cases e0 : k = 60 + 2 * j
    · subst e0; exact al_n0
    · by_cases e1 : k = 61 + 2 * j
      · subst e1; exact al_n1
      · rw [plN_o e0 e1] at hk
        exact up (hW.2.2.2.2.2.1 k hk)
end NEW
