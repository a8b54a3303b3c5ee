/-! A graph of types whose nodes are joined: what solves it, the most general, none where it goes in a circle: pure -/
def GR (K no : Int) (L R rt : Int → Int) : Prop := (∀ k, 0 ≤ k → k < K → 0 ≤ rt k ∧ rt k < K ∧ rt (rt k) = rt k) ∧ (∀ k, 0 ≤ k → k < K → L k ≠ no → (0 ≤ L k ∧ L k < K) ∧ (0 ≤ R k ∧ R k < K) ∧ L (rt k) ≠ no ∧ rt (L k) = rt (L (rt k)) ∧ rt (R k) = rt (R (rt k)))
def SOL (K no : Int) (L R rt : Int → Int) (t : Int → List Int) : Prop := ∀ k, 0 ≤ k → k < K → ty (t k) ∧ (L k ≠ no → t k = 0 :: (t (L k) ++ t (R k))) ∧ t (rt k) = t k
def RK (K no : Int) (L R rt : Int → Int) (h : Int → Nat) : Prop := ∀ k, 0 ≤ k → k < K → rt k = k → L k ≠ no → h (rt (L k)) < h k ∧ h (rt (R k)) < h k
def unf (no : Int) (L R rt : Int → Int) : Nat → Int → List Int
  | 0, _ => []
  | f + 1, k => if L (rt k) = no then [rt k + 1] else 0 :: (unf no L R rt f (L (rt k)) ++ unf no L R rt f (R (rt k)))
section
variable {K no : Int} {L R rt : Int → Int} {h : Int → Nat}
theorem unf_n {f : Nat} {k : Int} (e : L (rt k) = no) : unf no L R rt (f + 1) k = [rt k + 1] := if_pos e
theorem unf_a {f : Nat} {k : Int} (e : L (rt k) ≠ no) : unf no L R rt (f + 1) k = 0 :: (unf no L R rt f (L (rt k)) ++ unf no L R rt f (R (rt k))) := if_neg e
theorem unf_rt {f : Nat} {x y : Int} (e : rt x = rt y) : unf no L R rt f x = unf no L R rt f y := by
  cases f with
  | zero => rfl
  | succ f =>
    show (if L (rt x) = no then [rt x + 1] else 0 :: (unf no L R rt f (L (rt x)) ++ unf no L R rt f (R (rt x)))) = (if L (rt y) = no then [rt y + 1] else 0 :: (unf no L R rt f (L (rt y)) ++ unf no L R rt f (R (rt y))))
    rw [e]
theorem unf_eq (g : GR K no L R rt) (r : RK K no L R rt h) : ∀ {f f' : Nat} {k : Int}, 0 ≤ k → k < K → h (rt k) < f → h (rt k) < f' → unf no L R rt f k = unf no L R rt f' k := by
  intro f
  induction f with
  | zero => intro f' k _ _ h1; omega
  | succ f ih =>
    intro f' k k0 k1 h1 h2
    obtain ⟨f', rfl⟩ : ∃ x, f' = x + 1 := ⟨f' - 1, by omega⟩
    obtain ⟨g1, g2, g3⟩ := g.1 k k0 k1
    by_cases c : L (rt k) = no
    · rw [unf_n c, unf_n c]
    · obtain ⟨l1, l2, _⟩ := g.2 (rt k) g1 g2 c
      obtain ⟨r1, r2⟩ := r (rt k) g1 g2 g3 c
      rw [unf_a c, unf_a c, ih (f' := f') l1.1 l1.2 (by omega) (by omega), ih (f' := f') l2.1 l2.2 (by omega) (by omega)]
theorem unf_sol (g : GR K no L R rt) (r : RK K no L R rt h) : SOL K no L R rt (fun k => unf no L R rt (h (rt k) + 1) k) := by
  have ht : ∀ (n : Nat) (k : Int), 0 ≤ k → k < K → h (rt k) < n → ty (unf no L R rt n k) := by
    intro n
    induction n with
    | zero => intro k _ _ h1; omega
    | succ n ih =>
      intro k k0 k1 h1
      obtain ⟨g1, g2, g3⟩ := g.1 k k0 k1
      by_cases c : L (rt k) = no
      · rw [unf_n c]; exact ty_v (by omega)
      · obtain ⟨l1, l2, _⟩ := g.2 (rt k) g1 g2 c
        obtain ⟨r1, r2⟩ := r (rt k) g1 g2 g3 c
        rw [unf_a c]
        exact ty_a (ih _ l1.1 l1.2 (by omega)) (ih _ l2.1 l2.2 (by omega))
  intro k k0 k1
  obtain ⟨g1, g2, g3⟩ := g.1 k k0 k1
  refine ⟨ht _ k k0 k1 (by omega), fun c => ?_, ?_⟩
  · obtain ⟨l1, l2, l3, l4, l5⟩ := g.2 k k0 k1 c
    obtain ⟨m1, m2, _⟩ := g.2 (rt k) g1 g2 l3
    obtain ⟨r1, r2⟩ := r (rt k) g1 g2 g3 l3
    show unf no L R rt (h (rt k) + 1) k = 0 :: (unf no L R rt (h (rt (L k)) + 1) (L k) ++ unf no L R rt (h (rt (R k)) + 1) (R k))
    rw [unf_a l3, unf_rt l4, unf_rt l5, l4, l5, unf_eq g r (f := h (rt k)) (f' := h (rt (L (rt k))) + 1) m1.1 m1.2 r1 (by omega), unf_eq g r (f := h (rt k)) (f' := h (rt (R (rt k))) + 1) m2.1 m2.2 r2 (by omega)]
  · show unf no L R rt (h (rt (rt k)) + 1) (rt k) = unf no L R rt (h (rt k) + 1) k
    rw [g3]
    exact unf_rt g3
/-- every solution is made of the most general one -/
theorem unf_gen (g : GR K no L R rt) (r : RK K no L R rt h) {t : Int → List Int} (s : SOL K no L R rt t) : ∀ (n : Nat) (k : Int), 0 ≤ k → k < K → h (rt k) < n → t k = sub (fun v => if v - 1 < K then t (v - 1) else [1]) (unf no L R rt n k) := by
  intro n
  induction n with
  | zero => intro k _ _ h1; omega
  | succ n ih =>
    intro k k0 k1 h1
    obtain ⟨g1, g2, g3⟩ := g.1 k k0 k1
    have e1 := (s k k0 k1).2.2
    by_cases c : L (rt k) = no
    · rw [unf_n c, sub_v (by omega), if_pos (by omega), show rt k + 1 - 1 = rt k by omega]
      exact e1.symm
    · obtain ⟨l1, l2, _⟩ := g.2 (rt k) g1 g2 c
      obtain ⟨r1, r2⟩ := r (rt k) g1 g2 g3 c
      rw [unf_a c, sub_0, sub_app, ← ih _ l1.1 l1.2 (by omega), ← ih _ l2.1 l2.2 (by omega), ← e1]
      exact (s (rt k) g1 g2).2.1 c
theorem sol_ty {t : Int → List Int} (s : SOL K no L R rt t) : ∀ v, 1 ≤ v → ty ((fun v => if v - 1 < K then t (v - 1) else [1]) v) := by
  intro v hv
  show ty (if v - 1 < K then t (v - 1) else [1])
  by_cases c : v - 1 < K
  · rw [if_pos c]; exact (s (v - 1) (by omega) c).1
  · rw [if_neg c]; exact ty_v (by omega)
theorem bnd_ex {t : Int → List Int} : ∀ (n : Nat), ∃ b : Nat, ∀ k : Int, 0 ≤ k → k < (n : Int) → (t k).length ≤ b := by
  intro n
  induction n with
  | zero => exact ⟨0, fun k k0 k1 => by omega⟩
  | succ n ih =>
    obtain ⟨b, hb⟩ := ih
    refine ⟨b + (t (n : Int)).length, fun k k0 k1 => ?_⟩
    by_cases c : k = (n : Int)
    · rw [c]; omega
    · have := hb k k0 (by omega); omega
/-- a circle: some nodes, each a side of another of them: nothing solves it -/
theorem sol_circle {S : Int → Prop} {x0 : Int} (h0 : S x0) (hS : ∀ x, S x → (0 ≤ x ∧ x < K) ∧ ∃ y, S y ∧ L y ≠ no ∧ (rt (L y) = x ∨ rt (R y) = x)) (g : ∀ k, 0 ≤ k → k < K → L k ≠ no → (0 ≤ L k ∧ L k < K) ∧ (0 ≤ R k ∧ R k < K)) {t : Int → List Int} (s : SOL K no L R rt t) : False := by
  obtain ⟨b, hb⟩ := bnd_ex (t := t) K.toNat
  have hn : ∀ n : Nat, ∃ x, S x ∧ n ≤ (t x).length := by
    intro n
    induction n with
    | zero => exact ⟨x0, h0, Nat.zero_le _⟩
    | succ n ih =>
      obtain ⟨x, hx, hl⟩ := ih
      obtain ⟨_, y, hy, c, e⟩ := hS x hx
      obtain ⟨⟨y0, y1⟩, _⟩ := hS y hy
      obtain ⟨g1, g2⟩ := g y y0 y1 c
      have e1 := (s y y0 y1).2.1 c
      have p1 := (s (L y) g1.1 g1.2).2.2
      have p2 := (s (R y) g2.1 g2.2).2.2
      refine ⟨y, hy, ?_⟩
      rw [e1, List.length_cons, List.length_append]
      rcases e with e | e
      · rw [e] at p1
        rw [← p1]
        omega
      · rw [e] at p2
        rw [← p2]
        omega
  obtain ⟨x, hx, hl⟩ := hn (b + 1)
  obtain ⟨⟨x1, x2⟩, _⟩ := hS x hx
  have := hb x x1 (by omega)
  omega
end
/-- what is told of the types TY: none, or the most general by its names' order -/
def prT9 (TY : List Int → Prop) (c : Option (List Int)) : Prop := (c = none ∧ ∀ a, ¬ TY a) ∨ (∃ a, c = some (cnf [] a) ∧ ty a ∧ TY a ∧ ∀ b, TY b → ∃ t : Int → List Int, (∀ v, 1 ≤ v → ty (t v)) ∧ b = sub t a)
theorem prT9_one {TY : List Int → Prop} {c c' : Option (List Int)} (h : prT9 TY c) (h' : prT9 TY c') : c = c' := by
  rcases h with ⟨e, h⟩ | ⟨a, e, t1, t2, t3⟩
  · rcases h' with ⟨e', _⟩ | ⟨a', _, _, u2, _⟩
    · rw [e, e']
    · exact absurd u2 (h a')
  · rcases h' with ⟨_, h'⟩ | ⟨a', e', u1, u2, u3⟩
    · exact absurd t2 (h' a)
    · obtain ⟨t, ht, e1⟩ := t3 a' u2
      obtain ⟨u, hu, e2⟩ := u3 a t2
      rw [e, e', cnf_two t1 u1 ht hu e1 e2]
theorem prT9_ok {K no : Int} {L R rt : Int → Int} {h : Int → Nat} {TY : List Int → Prop} {w : Int} (g : GR K no L R rt) (r : RK K no L R rt h) (w0 : 0 ≤ w) (w1 : w < K) (s1 : ∀ t, SOL K no L R rt t → TY (t w)) (s2 : ∀ a, TY a → ∃ t, SOL K no L R rt t ∧ t w = a) {f : Nat} (hf : h (rt w) < f) : prT9 TY (some (cnf [] (unf no L R rt f w))) := by
  have u := unf_sol g r
  have e := unf_eq g r w0 w1 hf (Nat.lt_succ_self (h (rt w)))
  have z := s1 _ u
  have y := (u w w0 w1).1
  refine Or.inr ⟨unf no L R rt f w, rfl, ?_, ?_, fun b hb => ?_⟩
  · rw [e]; exact y
  · rw [e]; exact z
  · obtain ⟨t, ht, hw⟩ := s2 b hb
    exact ⟨_, sol_ty ht, by rw [← hw]; exact unf_gen g r ht f w w0 w1 hf⟩
theorem prT9_no {K no : Int} {L R rt : Int → Int} {TY : List Int → Prop} {w : Int} (c : ∀ t, ¬ SOL K no L R rt t) (s2 : ∀ a, TY a → ∃ t, SOL K no L R rt t ∧ t w = a) : prT9 TY none := Or.inl ⟨rfl, fun a ha => by
  obtain ⟨t, ht, _⟩ := s2 a ha
  exact c t ht⟩
/-! WHAT TYPES A TERM HAS -/
def arw (a b : List Int) : List Int := 0 :: (a ++ b)
def lt9 (c : Int) (G : List (List Int)) (sh u : List Int) : Prop := (c = 2 ∧ ∃ a b d, ty a ∧ ty b ∧ ty d ∧ u = arw (arw a (arw b d)) (arw (arw a b) (arw a d))) ∨ (c = 3 ∧ ∃ a b, ty a ∧ ty b ∧ u = arw a (arw b a)) ∨ (c = 4 ∧ ∃ a, ty a ∧ u = arw a a) ∨ (c = 5 ∧ u = arw sh sh) ∨ (c = 6 ∧ u = sh) ∨ (10 ≤ c ∧ G[(c - 10).toNat]? = some u)
def HT (g : Int → Int) : Nat → List (List Int) → List Int → Int → Int → List Int → Prop
  | 0, _, _, _, _, _ => False
  | f + 1, G, sh, p, e, u => (g p = 0 ∧ ∃ m a, ty a ∧ HT g f G sh (p + 1) m (arw a u) ∧ HT g f G sh m e a) ∨ (g p = 1 ∧ ∃ a b, ty a ∧ u = arw a b ∧ HT g f (a :: G) sh (p + 1) e b) ∨ (2 ≤ g p ∧ e = p + 1 ∧ lt9 (g p) G sh u)
def TYP (g : Int → Int) (n : Int) (u : List Int) : Prop := ty u ∧ ∃ sh f, ty sh ∧ HT g f [] sh 0 n u
theorem HT_tm {g : Int → Int} : ∀ {f : Nat} {G : List (List Int)} {sh u : List Int} {p e e' : Int}, HT g f G sh p e u → (∃ f' k, tm g f' k p e') → e = e' := by
  intro f
  induction f with
  | zero => intro G sh u p e e' h; exact h.elim
  | succ f ih =>
    intro G sh u p e e' h ht
    obtain ⟨f', k, ht⟩ := ht
    rcases h with ⟨h0, m, a, ta, h1, h2⟩ | ⟨h0, a, b, ta, e1, h1⟩ | ⟨h0, h1, h2⟩
    · obtain ⟨f1, m1, t1, t2, _⟩ := tm_app ht h0
      have hm := ih h1 ⟨_, _, t1⟩
      subst hm
      exact ih h2 ⟨_, _, t2⟩
    · obtain ⟨f1, t1, _⟩ := tm_lam ht h0
      exact ih h1 ⟨_, _, t1⟩
    · have := (tm_lf ht h0).1
      omega
theorem HT_cg {g g' : Int → Int} : ∀ {f : Nat} {G : List (List Int)} {sh u : List Int} {p e : Int}, (∀ j, p ≤ j → j < e → g' j = g j) → (∃ f' k, tm g f' k p e) → HT g f G sh p e u → HT g' f G sh p e u := by
  intro f
  induction f with
  | zero => intro G sh u p e _ _ h; exact h.elim
  | succ f ih =>
    intro G sh u p e hg ht h
    obtain ⟨f', k, ht⟩ := ht
    have lt := tm_lt ht
    have hp := hg p (by omega) lt
    rcases h with ⟨h0, m, a, ta, h1, h2⟩ | ⟨h0, a, b, ta, e1, h1⟩ | ⟨h0, h1, h2⟩
    · obtain ⟨f1, m1, t1, t2, _⟩ := tm_app ht h0
      have hm := HT_tm h1 ⟨_, _, t1⟩
      subst hm
      have l1 := tm_lt t1
      have l2 := tm_lt t2
      exact Or.inl ⟨by omega, m, a, ta, ih (fun j z y => hg j (by omega) (by omega)) ⟨_, _, t1⟩ h1, ih (fun j z y => hg j (by omega) (by omega)) ⟨_, _, t2⟩ h2⟩
    · obtain ⟨f1, t1, _⟩ := tm_lam ht h0
      exact Or.inr (Or.inl ⟨by omega, a, b, ta, e1, ih (fun j z y => hg j (by omega) (by omega)) ⟨_, _, t1⟩ h1⟩)
    · exact Or.inr (Or.inr ⟨by omega, h1, by rw [hp]; exact h2⟩)
