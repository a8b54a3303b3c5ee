/-! WHAT A NODE MORE ASKS: an any, an arrow, a letter's: pure -/
def opA (S S' : (Int → List Int) → Prop) (K : Int) : Prop := (∀ t, S' t ↔ (S t ∧ ty (t K))) ∧ ∀ t v, S t → ty v → ∃ t', S' t' ∧ (∀ k, 0 ≤ k → k < K → t' k = t k) ∧ t' K = v
def opR (S S' : (Int → List Int) → Prop) (K x y : Int) : Prop := (∀ t, S' t ↔ (S t ∧ t K = arw (t x) (t y))) ∧ ∀ t, S t → ∃ t', S' t' ∧ ∀ k, 0 ≤ k → k < K → t' k = t k
def opL (S S' : (Int → List Int) → Prop) (K c x r : Int) : Prop := (∀ t G, S' t → S t ∧ lt9 c G (t x) (t r)) ∧ ∀ t u, S t → lt9 c [] (t x) u → ∃ t', S' t' ∧ (∀ k, 0 ≤ k → k < K → t' k = t k) ∧ t' r = u
theorem opA_cg {S S' : (Int → List Int) → Prop} {K K' : Int} (h : K = K') (o : opA S S' K) : opA S S' K' := by subst h; exact o
theorem opR_cg {S S' : (Int → List Int) → Prop} {K K' x x' y y' : Int} (h : K = K') (h1 : x = x') (h2 : y = y') (o : opR S S' K x y) : opR S S' K' x' y' := by subst h; subst h1; subst h2; exact o
theorem opL_cg {S S' : (Int → List Int) → Prop} {K c c' x r r' : Int} (h1 : c = c') (h2 : r = r') (o : opL S S' K c x r) : opL S S' K c' x r' := by subst h1; subst h2; exact o
section
variable {S0 S1 S2 S3 S4 S5 S6 S7 S8 S9 : (Int → List Int) → Prop} {K x : Int}
theorem opL_X : opL S0 S0 K 6 x x := ⟨fun t G z => ⟨z, Or.inr (Or.inr (Or.inr (Or.inr (Or.inl ⟨rfl, rfl⟩))))⟩, fun t u z y => by
  rcases y with ⟨h, _⟩ | ⟨h, _⟩ | ⟨h, _⟩ | ⟨h, _⟩ | ⟨_, h⟩ | ⟨h, _⟩
  · omega
  · omega
  · omega
  · omega
  · exact ⟨t, z, fun _ _ _ => rfl, h.symm⟩
  · omega⟩
theorem opL_F (o1 : opR S0 S1 K x x) (hx : 0 ≤ x ∧ x < K) : opL S0 S1 K 5 x K := ⟨fun t G z => ⟨((o1.1 t).mp z).1, Or.inr (Or.inr (Or.inr (Or.inl ⟨rfl, ((o1.1 t).mp z).2⟩)))⟩, fun t u z y => by
  rcases y with ⟨h, _⟩ | ⟨h, _⟩ | ⟨h, _⟩ | ⟨_, h⟩ | ⟨h, _⟩ | ⟨h, _⟩
  · omega
  · omega
  · omega
  · obtain ⟨t1, z1, w1⟩ := o1.2 t z
    refine ⟨t1, z1, w1, ?_⟩
    rw [((o1.1 t1).mp z1).2, w1 x hx.1 hx.2, h]
  · omega
  · omega⟩
theorem opL_I (h0 : 0 ≤ K) (o1 : opA S0 S1 K) (o2 : opR S1 S2 (K + 1) K K) : opL S0 S2 K 4 x (K + 1) := ⟨fun t G z => by
  obtain ⟨z1, y2⟩ := (o2.1 t).mp z
  obtain ⟨z0, y1⟩ := (o1.1 t).mp z1
  exact ⟨z0, Or.inr (Or.inr (Or.inl ⟨rfl, _, y1, y2⟩))⟩, fun t u z y => by
  rcases y with ⟨h, _⟩ | ⟨h, _⟩ | ⟨_, a, ha, h⟩ | ⟨h, _⟩ | ⟨h, _⟩ | ⟨h, _⟩
  · omega
  · omega
  · obtain ⟨t1, z1, w1, v1⟩ := o1.2 t a z ha
    obtain ⟨t2, z2, w2⟩ := o2.2 t1 z1
    obtain ⟨_, y2⟩ := (o2.1 t2).mp z2
    refine ⟨t2, z2, fun k c1 c2 => by rw [w2 k c1 (by omega), w1 k c1 c2], ?_⟩
    rw [y2, w2 K h0 (by omega), v1, h]
  · omega
  · omega
  · omega⟩
theorem opL_K (h0 : 0 ≤ K) (o1 : opA S0 S1 K) (o2 : opA S1 S2 (K + 1)) (o3 : opR S2 S3 (K + 2) (K + 1) K) (o4 : opR S3 S4 (K + 3) K (K + 2)) : opL S0 S4 K 3 x (K + 3) := ⟨fun t G z => by
  obtain ⟨z3, y4⟩ := (o4.1 t).mp z
  obtain ⟨z2, y3⟩ := (o3.1 t).mp z3
  obtain ⟨z1, y2⟩ := (o2.1 t).mp z2
  obtain ⟨z0, y1⟩ := (o1.1 t).mp z1
  refine ⟨z0, Or.inr (Or.inl ⟨rfl, _, _, y1, y2, ?_⟩)⟩
  rw [y4, y3], fun t u z y => by
  rcases y with ⟨h, _⟩ | ⟨_, a, b, ha, hb, h⟩ | ⟨h, _⟩ | ⟨h, _⟩ | ⟨h, _⟩ | ⟨h, _⟩
  · omega
  · obtain ⟨t1, z1, w1, v1⟩ := o1.2 t a z ha
    obtain ⟨t2, z2, w2, v2⟩ := o2.2 t1 b z1 hb
    obtain ⟨t3, z3, w3⟩ := o3.2 t2 z2
    obtain ⟨t4, z4, w4⟩ := o4.2 t3 z3
    obtain ⟨z3', y4⟩ := (o4.1 t4).mp z4
    obtain ⟨_, y3⟩ := (o3.1 t4).mp z3'
    have e1 : t4 K = a := by rw [w4 K h0 (by omega), w3 K h0 (by omega), w2 K h0 (by omega), v1]
    have e2 : t4 (K + 1) = b := by rw [w4 _ (by omega) (by omega), w3 _ (by omega) (by omega), v2]
    refine ⟨t4, z4, fun k c1 c2 => by rw [w4 k c1 (by omega), w3 k c1 (by omega), w2 k c1 (by omega), w1 k c1 c2], ?_⟩
    rw [y4, y3, e1, e2, h]
  · omega
  · omega
  · omega
  · omega⟩
theorem opL_S (h0 : 0 ≤ K) (o1 : opA S0 S1 K) (o2 : opA S1 S2 (K + 1)) (o3 : opA S2 S3 (K + 2)) (o4 : opR S3 S4 (K + 3) (K + 1) (K + 2)) (o5 : opR S4 S5 (K + 4) K (K + 3)) (o6 : opR S5 S6 (K + 5) K (K + 1)) (o7 : opR S6 S7 (K + 6) K (K + 2)) (o8 : opR S7 S8 (K + 7) (K + 5) (K + 6)) (o9 : opR S8 S9 (K + 8) (K + 4) (K + 7)) : opL S0 S9 K 2 x (K + 8) := ⟨fun t G z => by
  obtain ⟨z8, y9⟩ := (o9.1 t).mp z
  obtain ⟨z7, y8⟩ := (o8.1 t).mp z8
  obtain ⟨z6, y7⟩ := (o7.1 t).mp z7
  obtain ⟨z5, y6⟩ := (o6.1 t).mp z6
  obtain ⟨z4, y5⟩ := (o5.1 t).mp z5
  obtain ⟨z3, y4⟩ := (o4.1 t).mp z4
  obtain ⟨z2, y3⟩ := (o3.1 t).mp z3
  obtain ⟨z1, y2⟩ := (o2.1 t).mp z2
  obtain ⟨z0, y1⟩ := (o1.1 t).mp z1
  refine ⟨z0, Or.inl ⟨rfl, _, _, _, y1, y2, y3, ?_⟩⟩
  rw [y9, y8, y7, y6, y5, y4], fun t u z y => by
  rcases y with ⟨_, a, b, c, ha, hb, hc, h⟩ | ⟨h, _⟩ | ⟨h, _⟩ | ⟨h, _⟩ | ⟨h, _⟩ | ⟨h, _⟩
  · obtain ⟨t1, z1, w1, v1⟩ := o1.2 t a z ha
    obtain ⟨t2, z2, w2, v2⟩ := o2.2 t1 b z1 hb
    obtain ⟨t3, z3, w3, v3⟩ := o3.2 t2 c z2 hc
    obtain ⟨t4, z4, w4⟩ := o4.2 t3 z3
    obtain ⟨t5, z5, w5⟩ := o5.2 t4 z4
    obtain ⟨t6, z6, w6⟩ := o6.2 t5 z5
    obtain ⟨t7, z7, w7⟩ := o7.2 t6 z6
    obtain ⟨t8, z8, w8⟩ := o8.2 t7 z7
    obtain ⟨t9, z9, w9⟩ := o9.2 t8 z8
    obtain ⟨x8, y9⟩ := (o9.1 t9).mp z9
    obtain ⟨x7, y8⟩ := (o8.1 t9).mp x8
    obtain ⟨x6, y7⟩ := (o7.1 t9).mp x7
    obtain ⟨x5, y6⟩ := (o6.1 t9).mp x6
    obtain ⟨x4, y5⟩ := (o5.1 t9).mp x5
    obtain ⟨_, y4⟩ := (o4.1 t9).mp x4
    have e : ∀ k, 0 ≤ k → k < K + 3 → t9 k = t3 k := fun k c1 c2 => by rw [w9 k c1 (by omega), w8 k c1 (by omega), w7 k c1 (by omega), w6 k c1 (by omega), w5 k c1 (by omega), w4 k c1 (by omega)]
    have e1 : t9 K = a := by rw [e K h0 (by omega), w3 K h0 (by omega), w2 K h0 (by omega), v1]
    have e2 : t9 (K + 1) = b := by rw [e _ (by omega) (by omega), w3 _ (by omega) (by omega), v2]
    have e3 : t9 (K + 2) = c := by rw [e _ (by omega) (by omega), v3]
    refine ⟨t9, z9, fun k c1 c2 => by rw [e k c1 (by omega), w3 k c1 (by omega), w2 k c1 (by omega), w1 k c1 c2], ?_⟩
    rw [y9, y8, y7, y6, y5, y4, e1, e2, e3, h]
  · omega
  · omega
  · omega
  · omega
  · omega⟩
end
