/-! A WALK THAT LOOKS FOR A CIRCLE: what it has done, what it is at: pure -/
def CH (l r rt : Int → Int) (x y : Int) : Prop := l x ≠ -4 ∧ (rt (l x) = y ∨ rt (r x) = y)
def DF (K : Int) (l r rt mk pa : Int → Int) (w : Int) : Prop := (∃ (h : Int → Nat) (c : Nat), ∀ x, 0 ≤ x → x < K → mk x = 2 → h x < c ∧ (l x ≠ -4 → (mk (rt (l x)) = 2 ∧ h (rt (l x)) < h x) ∧ (mk (rt (r x)) = 2 ∧ h (rt (r x)) < h x))) ∧ (∀ j, 0 ≤ j → j < w → (0 ≤ pa j ∧ pa j < K) ∧ mk (pa j) = 1) ∧ (∀ j, 0 ≤ j → j + 1 < w → CH l r rt (pa j) (pa (j + 1))) ∧ (∀ y, 0 ≤ y → y < K → mk y = 1 → ∃ j, 0 ≤ j ∧ j < w ∧ pa j = y) ∧ (∀ j j', 0 ≤ j → j < j' → j' < w → pa j ≠ pa j')
section
variable {K : Int} {l r rt mk pa : Int → Int} {w g : Int}
theorem DF_beg (h : ∀ j, 0 ≤ j → j < K → mk j = 0) : DF K l r rt mk pa 0 := ⟨⟨fun _ => 0, 0, fun x a b c => by have := h x a b; omega⟩, fun j a b => by omega, fun j a b => by omega, fun y a b c => by have := h y a b; omega, fun j j' a b c => by omega⟩
theorem DF_fin {x : Int} (h : DF K l r rt mk pa w) (hw : 0 < w) (hx : x = pa (w - 1)) (hR : ∀ k, 0 ≤ k → k < K → l k ≠ -4 → (0 ≤ rt (l k) ∧ rt (l k) < K) ∧ (0 ≤ rt (r k) ∧ rt (r k) < K)) (hc : l x ≠ -4 → mk (rt (l x)) = 2 ∧ mk (rt (r x)) = 2) : DF K l r rt (updI mk x 2) pa (w + -1) := by
  obtain ⟨⟨h1, c, h2⟩, h3, h4, h5, h6⟩ := h
  obtain ⟨x0, x1⟩ := h3 (w - 1) (by omega) (by omega)
  rw [← hx] at x0 x1
  have ne : ∀ z, mk z = 2 → z ≠ x := fun z hz e => by rw [e] at hz; omega
  refine ⟨⟨fun y => if y = x then c else h1 y, c + 1, fun y a b e => ?_⟩, fun j a b => ?_, fun j a b => h4 j a (by omega), fun y a b e => ?_, fun j j' a b e => h6 j j' a b (by omega)⟩
  · by_cases cy : y = x
    · subst cy
      show (if y = y then c else h1 y) < c + 1 ∧ (l y ≠ -4 → (updI mk y 2 (rt (l y)) = 2 ∧ (if rt (l y) = y then c else h1 (rt (l y))) < (if y = y then c else h1 y)) ∧ (updI mk y 2 (rt (r y)) = 2 ∧ (if rt (r y) = y then c else h1 (rt (r y))) < (if y = y then c else h1 y)))
      rw [if_pos rfl]
      refine ⟨Nat.lt_succ_self c, fun z => ?_⟩
      obtain ⟨z1, z2⟩ := hc z
      obtain ⟨r1, r2⟩ := hR y a b z
      have n1 := ne _ z1
      have n2 := ne _ z2
      rw [if_neg n1, if_neg n2, updI_n _ _ n1, updI_n _ _ n2]
      exact ⟨⟨z1, (h2 _ r1.1 r1.2 z1).1⟩, z2, (h2 _ r2.1 r2.2 z2).1⟩
    · rw [updI_n _ _ cy] at e
      obtain ⟨b1, b2⟩ := h2 y a b e
      show (if y = x then c else h1 y) < c + 1 ∧ (l y ≠ -4 → (updI mk x 2 (rt (l y)) = 2 ∧ (if rt (l y) = x then c else h1 (rt (l y))) < (if y = x then c else h1 y)) ∧ (updI mk x 2 (rt (r y)) = 2 ∧ (if rt (r y) = x then c else h1 (rt (r y))) < (if y = x then c else h1 y)))
      rw [if_neg cy]
      refine ⟨by omega, fun z => ?_⟩
      obtain ⟨⟨z1, z2⟩, z3, z4⟩ := b2 z
      have n1 := ne _ z1
      have n2 := ne _ z3
      rw [if_neg n1, if_neg n2, updI_n _ _ n1, updI_n _ _ n2]
      exact ⟨⟨z1, z2⟩, z3, z4⟩
  · obtain ⟨a1, a2⟩ := h3 j a (by omega)
    have : pa j ≠ x := by rw [hx]; exact h6 j (w - 1) a (by omega) (by omega)
    rw [updI_n _ _ this]
    exact ⟨a1, a2⟩
  · by_cases cy : y = x
    · subst cy; rw [updI_s] at e; omega
    · rw [updI_n _ _ cy] at e
      obtain ⟨j, j0, j1, j2⟩ := h5 y a b e
      refine ⟨j, j0, ?_, j2⟩
      have : j ≠ w - 1 := fun z => cy (by rw [hx, ← j2, z])
      omega
theorem DF_push (h : DF K l r rt mk pa w) (w0 : 0 ≤ w) (hg : 0 ≤ g ∧ g < K) (hm : mk g = 0) (hc : 0 < w → CH l r rt (pa (w - 1)) g) : DF K l r rt (updI mk g 1) (updI pa w g) (w + 1) := by
  obtain ⟨⟨h1, c, h2⟩, h3, h4, h5, h6⟩ := h
  have ne : ∀ z, mk z ≠ 0 → z ≠ g := fun z hz e => by rw [e] at hz; omega
  refine ⟨⟨h1, c, fun y a b e => ?_⟩, fun j a b => ?_, fun j a b => ?_, fun y a b e => ?_, fun j j' a b e => ?_⟩
  · by_cases cy : y = g
    · subst cy; rw [updI_s] at e; omega
    · rw [updI_n _ _ cy] at e
      obtain ⟨b1, b2⟩ := h2 y a b e
      refine ⟨b1, fun z => ?_⟩
      obtain ⟨⟨z1, z2⟩, z3, z4⟩ := b2 z
      rw [updI_n _ _ (ne _ (by omega)), updI_n _ _ (ne _ (by omega))]
      exact ⟨⟨z1, z2⟩, z3, z4⟩
  · by_cases cj : j = w
    · rw [cj, updI_s, updI_s]; exact ⟨hg, rfl⟩
    · rw [updI_n pa _ cj]
      obtain ⟨a1, a2⟩ := h3 j a (by omega)
      rw [updI_n _ _ (ne _ (by omega))]
      exact ⟨a1, a2⟩
  · rw [updI_n pa _ (by omega)]
    by_cases cj : j + 1 = w
    · rw [cj, updI_s]
      have := hc (by omega)
      rw [show w - 1 = j by omega] at this
      exact this
    · rw [updI_n _ _ cj]; exact h4 j a (by omega)
  · by_cases cy : y = g
    · exact ⟨w, w0, by omega, by rw [updI_s, cy]⟩
    · rw [updI_n _ _ cy] at e
      obtain ⟨j, j0, j1, j2⟩ := h5 y a b e
      exact ⟨j, j0, by omega, by rw [updI_n _ _ (by omega)]; exact j2⟩
  · rw [updI_n pa _ (by omega)]
    by_cases cj : j' = w
    · rw [cj, updI_s]
      exact ne _ (by have := (h3 j a (by omega)).2; omega)
    · rw [updI_n _ _ cj]; exact h6 j j' a b (by omega)
theorem DF_circ (h : DF K l r rt mk pa w) (hw : 0 < w) (hg : 0 ≤ g ∧ g < K) (hm : mk g = 1) (hc : CH l r rt (pa (w - 1)) g) (hR : ∀ k, 0 ≤ k → k < K → l k ≠ -4 → (0 ≤ l k ∧ l k < K) ∧ (0 ≤ r k ∧ r k < K)) : ∀ t, ¬ SOL K (-4) l r rt t := by
  obtain ⟨_, h3, h4, h5, h6⟩ := h
  obtain ⟨m, m0, m1, m2⟩ := h5 g hg.1 hg.2 hm
  intro t st
  refine sol_circle (S := fun x => ∃ j, m ≤ j ∧ j < w ∧ x = pa j) (x0 := g) ⟨m, Int.le_refl _, m1, m2.symm⟩ (fun x ⟨j, j0, j1, j2⟩ => ?_) hR st
  refine ⟨by rw [j2]; exact (h3 j (by omega) j1).1, ?_⟩
  by_cases cj : j = m
  · refine ⟨pa (w - 1), ⟨w - 1, by omega, by omega, rfl⟩, hc.1, ?_⟩
    rw [j2, cj, m2]; exact hc.2
  · have := h4 (j - 1) (by omega) (by omega)
    rw [show j - 1 + 1 = j by omega] at this
    exact ⟨pa (j - 1), ⟨j - 1, by omega, by omega, rfl⟩, this.1, by rw [j2]; exact this.2⟩
theorem DF_end (h : DF K l r rt mk pa 0) (h1 : ∀ k, 0 ≤ k → k < K → mk (rt k) ≠ 0) (h2 : ∀ k, 0 ≤ k → k < K → 0 ≤ mk k ∧ mk k ≤ 2) : ∃ h, RK K (-4) l r rt h := by
  obtain ⟨⟨hh, c, h3⟩, _, _, h5, _⟩ := h
  refine ⟨hh, fun k a b e z => ?_⟩
  have m1 := h1 k a b
  rw [e] at m1
  have m2 := h2 k a b
  have m3 : mk k = 2 := by
    by_cases c1 : mk k = 1
    · obtain ⟨j, j0, j1, _⟩ := h5 k a b c1
      omega
    · omega
  obtain ⟨_, b2⟩ := h3 k a b m3
  obtain ⟨⟨_, z2⟩, _, z4⟩ := b2 z
  exact ⟨z2, z4⟩
end
