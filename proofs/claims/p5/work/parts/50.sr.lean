/-! CODES AS LISTS: tL f k l: l is one term; what replaces a part of a term; a step leaves a term -/
def tL : Nat → Int → List Int → Prop
  | 0, _, _ => False
  | f + 1, k, l => (∃ l1 l2, l = 0 :: (l1 ++ l2) ∧ tL f k l1 ∧ tL f k l2) ∨ (∃ l1, l = 1 :: l1 ∧ tL f (k + 1) l1) ∨ (∃ c, l = [c] ∧ 2 ≤ c ∧ (c ≤ 6 ∨ 10 ≤ c ∧ c < 10 + k))
theorem tL_up : ∀ {f : Nat} {k : Int} {l : List Int}, tL f k l → tL (f + 1) k l := by
  intro f
  induction f with
  | zero => intro k l h; exact h.elim
  | succ f ih =>
    intro k l h
    rcases h with ⟨l1, l2, h0, h1, h2⟩ | ⟨l1, h0, h1⟩ | h0
    · exact Or.inl ⟨l1, l2, h0, ih h1, ih h2⟩
    · exact Or.inr (Or.inl ⟨l1, h0, ih h1⟩)
    · exact Or.inr (Or.inr h0)
theorem tL_le {f f' : Nat} {k : Int} {l : List Int} (h : f ≤ f') (t : tL f k l) : tL f' k l := by
  induction h with
  | refl => exact t
  | step _ ih => exact tL_up ih
theorem rg_app {g : Int → Int} : ∀ {n m : Nat} {p : Int}, rg g (n + m) p = rg g n p ++ rg g m (p + n) := by
  intro n
  induction n with
  | zero => intro m p; rw [show 0 + m = m by omega, show p + ((0 : Nat) : Int) = p by omega]; rfl
  | succ n ih =>
    intro m p
    rw [show n + 1 + m = (n + m) + 1 by omega]
    show g p :: rg g (n + m) (p + 1) = (g p :: rg g n (p + 1)) ++ rg g m (p + ((n + 1 : Nat) : Int))
    rw [ih, show p + 1 + (n : Int) = p + ((n + 1 : Nat) : Int) by omega]
    rfl
theorem rg_cut {g : Int → Int} {p m e : Int} (h1 : p ≤ m) (h2 : m ≤ e) : rg g (e - p).toNat p = rg g (m - p).toNat p ++ rg g (e - m).toNat m := by
  rw [show (e - p).toNat = (m - p).toNat + (e - m).toNat by omega, rg_app, show p + ((m - p).toNat : Int) = m by omega]
theorem rg_cons {g : Int → Int} {p e : Int} (h : p < e) : rg g (e - p).toNat p = g p :: rg g (e - (p + 1)).toNat (p + 1) := by
  rw [show (e - p).toNat = (e - (p + 1)).toNat + 1 by omega]
  rfl
theorem rg_congr {g g' : Int → Int} : ∀ {n : Nat} {p o : Int}, (∀ j, p ≤ j → j < p + n → g' (j + o) = g j) → rg g' n (p + o) = rg g n p := by
  intro n
  induction n with
  | zero => intro p o _; rfl
  | succ n ih =>
    intro p o h
    show g' (p + o) :: rg g' n (p + o + 1) = g p :: rg g n (p + 1)
    rw [h p (by omega) (by omega), show p + o + 1 = p + 1 + o by omega, ih (fun j z y => h j (by omega) (by omega))]
theorem rg_eq {g g' : Int → Int} {n : Nat} {p : Int} (h : ∀ j, p ≤ j → j < p + n → g' j = g j) : rg g' n p = rg g n p := by
  have := rg_congr (g := g) (g' := g') (n := n) (p := p) (o := 0) (fun j z y => by rw [show j + 0 = j by omega]; exact h j z y)
  rw [show p + 0 = p by omega] at this
  exact this
theorem rg_at {g g' : Int → Int} : ∀ {n : Nat} {p p' : Int}, rg g' n p' = rg g n p → ∀ j : Int, 0 ≤ j → j < n → g' (p' + j) = g (p + j) := by
  intro n
  induction n with
  | zero => intro p p' _ j h0 h1; omega
  | succ n ih =>
    intro p p' h j h0 h1
    obtain ⟨h2, h3⟩ := List.cons.inj (show g' p' :: rg g' n (p' + 1) = g p :: rg g n (p + 1) from h)
    by_cases hj : j = 0
    · subst hj; rw [show p' + 0 = p' by omega, show p + 0 = p by omega]; exact h2
    · have := ih h3 (j - 1) (by omega) (by omega)
      rw [show p' + 1 + (j - 1) = p' + j by omega, show p + 1 + (j - 1) = p + j by omega] at this
      exact this
theorem tm_tL {g : Int → Int} : ∀ {f : Nat} {k p e : Int}, tm g f k p e → tL f k (rg g (e - p).toNat p) := by
  intro f
  induction f with
  | zero => intro k p e h; exact h.elim
  | succ f ih =>
    intro k p e h
    rw [rg_cons (tm_lt h)]
    rcases h with ⟨h0, m, h1, h2⟩ | ⟨h0, h1⟩ | ⟨h0, h1, h2⟩
    · have l1 := tm_lt h1; have l2 := tm_lt h2
      refine Or.inl ⟨rg g (m - (p + 1)).toNat (p + 1), rg g (e - m).toNat m, ?_, ih h1, ih h2⟩
      rw [h0, rg_cut (m := m) (by omega) (by omega)]
    · exact Or.inr (Or.inl ⟨_, by rw [h0], ih h1⟩)
    · refine Or.inr (Or.inr ⟨g p, ?_, h0, h1⟩)
      rw [h2, show (p + 1 - (p + 1)).toNat = 0 by omega]; rfl
theorem tL_tm {g : Int → Int} : ∀ {f : Nat} {k p : Int} {l : List Int}, tL f k l → rg g l.length p = l → tm g f k p (p + l.length) := by
  intro f
  induction f with
  | zero => intro k p l h; exact h.elim
  | succ f ih =>
    intro k p l h hg
    rcases h with ⟨l1, l2, h0, h1, h2⟩ | ⟨l1, h0, h1⟩ | ⟨c, h0, h1, h2⟩
    · subst h0
      rw [List.length_cons, List.length_append] at hg ⊢
      obtain ⟨e1, e2⟩ := List.cons.inj (show g p :: rg g (l1.length + l2.length) (p + 1) = 0 :: (l1 ++ l2) from hg)
      rw [rg_app] at e2
      obtain ⟨e3, e4⟩ := List.append_inj e2 rg_len
      refine Or.inl ⟨e1, p + 1 + l1.length, ih h1 e3, ?_⟩
      have := ih h2 e4
      rw [show p + ((l1.length + l2.length + 1 : Nat) : Int) = p + 1 + l1.length + l2.length by omega]
      exact this
    · subst h0
      rw [List.length_cons] at hg ⊢
      obtain ⟨e1, e2⟩ := List.cons.inj (show g p :: rg g l1.length (p + 1) = 1 :: l1 from hg)
      refine Or.inr (Or.inl ⟨e1, ?_⟩)
      have := ih h1 e2
      rw [show p + ((l1.length + 1 : Nat) : Int) = p + 1 + l1.length by omega]
      exact this
    · subst h0
      obtain ⟨e1, _⟩ := List.cons.inj (show g p :: [] = c :: [] from hg)
      exact Or.inr (Or.inr ⟨by omega, by omega, rfl⟩)
/-- another term for a part of a term -/
theorem tm_put {g : Int → Int} : ∀ {f : Nat} {k a b : Int}, tm g f k a b → ∀ p, a ≤ p → p < b → ∃ f' k' e, tm g f' k' p e ∧ e ≤ b ∧ k ≤ k' ∧ k' ≤ k + (p - a) ∧ ∀ (l : List Int) (F : Nat), tL F k' l → tL (f + F) k (rg g (p - a).toNat a ++ l ++ rg g (b - e).toNat e) := by
  intro f
  induction f with
  | zero => intro k a b h; exact h.elim
  | succ f ih =>
    intro k a b h p h1 h2
    by_cases hp : p = a
    · subst hp
      refine ⟨f + 1, k, b, h, by omega, by omega, by omega, fun l F hl => ?_⟩
      rw [show (p - p).toNat = 0 by omega, show (b - b).toNat = 0 by omega]
      show tL _ _ ([] ++ l ++ [])
      rw [List.nil_append, List.append_nil]
      exact tL_le (by omega) hl
    · rcases h with ⟨h0, m, z1, z2⟩ | ⟨h0, z1⟩ | ⟨h0, z1, z2⟩
      · have l1 := tm_lt z1; have l2 := tm_lt z2
        by_cases hm : p < m
        · obtain ⟨f', k', e, t, e1, e2, e3, hh⟩ := ih z1 p (by omega) hm
          refine ⟨f', k', e, t, by omega, e2, by omega, fun l F hl => ?_⟩
          rw [rg_cons (p := a) (e := p) (by omega), h0, rg_cut (g := g) (p := e) (m := m) (e := b) (by omega) (by omega), show f + 1 + F = (f + F) + 1 by omega]
          refine Or.inl ⟨_, _, ?_, hh l F hl, tL_le (by omega) (tm_tL z2)⟩
          simp only [List.cons_append, List.append_assoc]
        · obtain ⟨f', k', e, t, e1, e2, e3, hh⟩ := ih z2 p (by omega) h2
          refine ⟨f', k', e, t, by omega, e2, by omega, fun l F hl => ?_⟩
          rw [rg_cons (p := a) (e := p) (by omega), h0, rg_cut (g := g) (p := a + 1) (m := m) (e := p) (by omega) (by omega), show f + 1 + F = (f + F) + 1 by omega]
          refine Or.inl ⟨_, _, ?_, tL_le (by omega) (tm_tL z1), hh l F hl⟩
          simp only [List.cons_append, List.append_assoc]
      · have l1 := tm_lt z1
        obtain ⟨f', k', e, t, e1, e2, e3, hh⟩ := ih z1 p (by omega) h2
        refine ⟨f', k', e, t, by omega, by omega, by omega, fun l F hl => ?_⟩
        rw [rg_cons (p := a) (e := p) (by omega), h0, show f + 1 + F = (f + F) + 1 by omega]
        exact Or.inr (Or.inl ⟨_, by simp only [List.cons_append], hh l F hl⟩)
      · omega
theorem dp_small {g D : Int → Int} : ∀ {f : Nat} {k p e : Int}, dp g D f k p e → ∀ N : Nat, (e - p).toNat ≤ N → dp g D N k p e := by
  intro f
  induction f with
  | zero => intro k p e h; exact h.elim
  | succ f ih =>
    intro k p e h N hN
    have hp := dp_lt h
    obtain ⟨N, rfl⟩ : ∃ n, N = n + 1 := ⟨N - 1, by omega⟩
    rcases h with ⟨hd, ⟨h0, m, h1, h2⟩ | ⟨h0, h1⟩ | h0⟩
    · have := dp_lt h1; have := dp_lt h2
      exact ⟨hd, Or.inl ⟨h0, m, ih h1 N (by omega), ih h2 N (by omega)⟩⟩
    · exact ⟨hd, Or.inr (Or.inl ⟨h0, ih h1 N (by omega)⟩)⟩
    · exact ⟨hd, Or.inr (Or.inr h0)⟩
theorem dp_tm_end {g D : Int → Int} : ∀ {f f' : Nat} {k k' p e e' : Int}, tm g f k p e → dp g D f' k' p e' → e = e' := by
  intro f
  induction f with
  | zero => intro f' k k' p e e' h; exact h.elim
  | succ f ih =>
    intro f' k k' p e e' h h'
    cases f' with
    | zero => exact h'.elim
    | succ f' =>
      rcases h with ⟨h0, m, z1, z2⟩ | ⟨h0, z1⟩ | ⟨h0, _, z1⟩ <;> rcases h' with ⟨_, ⟨h0', m', y1, y2⟩ | ⟨h0', y1⟩ | ⟨h0', y1⟩⟩ <;> try omega
      · have := ih z1 y1
        subst this
        exact ih z2 y2
      · exact ih z1 y1
/-- variables that are bound outside, raised -/
theorem tL_rs {g q : Int → Int} {m c : Int} (hm : 0 ≤ m ∨ m = -1) : ∀ {f : Nat} {j x y : Int}, tm g f (c + j) x y → dp g q f j x y → 0 ≤ j → 0 ≤ c + m → (m = -1 → ∀ i, x ≤ i → i < y → g i ≠ 10 + q i) → tL f (c + m + j) (rg (rsI g q m) (y - x).toNat x) := by
  intro f
  induction f with
  | zero => intro j x y h; exact h.elim
  | succ f ih =>
    intro j x y h hd hj hc hn
    rw [rg_cons (tm_lt h)]
    have hlt := tm_lt h
    rcases hd with ⟨d0, hd⟩
    have ns : g x ≤ 9 → rsI g q m x = g x := fun z => (rsI_n (Or.inl z)).symm
    rcases h with ⟨h0, u, z1, z2⟩ | ⟨h0, z1⟩ | ⟨h0, z1, z2⟩
    · have l1 := tm_lt z1; have l2 := tm_lt z2
      rcases hd with ⟨_, v, y1, y2⟩ | ⟨w0, _⟩ | ⟨w0, _⟩ <;> try omega
      have : u = v := by
        have := dp_tm_end z1 y1
        exact this
      subst this
      rw [ns (by omega), h0, rg_cut (m := u) (by omega) (by omega)]
      exact Or.inl ⟨_, _, rfl, ih z1 y1 hj hc (fun a i b c => hn a i (by omega) (by omega)), ih z2 y2 hj hc (fun a i b c => hn a i (by omega) (by omega))⟩
    · have l1 := tm_lt z1
      rcases hd with ⟨w0, _⟩ | ⟨_, y1⟩ | ⟨w0, _⟩ <;> try omega
      rw [ns (by omega), h0]
      refine Or.inr (Or.inl ⟨_, rfl, ?_⟩)
      have := ih (j := j + 1) (by rw [show c + (j + 1) = c + j + 1 by omega]; exact z1) y1 (by omega) hc (fun a i b c => hn a i (by omega) (by omega))
      rw [show c + m + j + 1 = c + m + (j + 1) by omega]
      exact this
    · rw [z2, show (x + 1 - (x + 1)).toNat = 0 by omega]
      refine Or.inr (Or.inr ⟨rsI g q m x, rfl, ?_⟩)
      by_cases h9 : 9 < g x ∧ q x ≤ g x - 10
      · rw [← rsI_y h9.1 h9.2]
        rcases hm with hm | hm
        · exact ⟨by omega, by omega⟩
        · have := hn hm x (by omega) (by omega)
          exact ⟨by omega, by omega⟩
      · rw [← rsI_n (by omega)]
        exact ⟨by omega, by omega⟩
theorem bet_app {g D q : Int → Int} {u : Int} {ne : Nat} : ∀ {n m : Nat} {p : Int}, bet g D q u ne (n + m) p = bet g D q u ne n p ++ bet g D q u ne m (p + n) := by
  intro n
  induction n with
  | zero => intro m p; rw [show 0 + m = m by omega, show p + ((0 : Nat) : Int) = p by omega]; rfl
  | succ n ih =>
    intro m p
    rw [show n + 1 + m = (n + m) + 1 by omega]
    show bpc g D q u ne p ++ bet g D q u ne (n + m) (p + 1) = (bpc g D q u ne p ++ bet g D q u ne n (p + 1)) ++ bet g D q u ne m (p + ((n + 1 : Nat) : Int))
    rw [ih, show p + 1 + (n : Int) = p + ((n + 1 : Nat) : Int) by omega, List.append_assoc]
theorem bet_cut {g D q : Int → Int} {u : Int} {ne : Nat} {p m e : Int} (h1 : p ≤ m) (h2 : m ≤ e) : bet g D q u ne (e - p).toNat p = bet g D q u ne (m - p).toNat p ++ bet g D q u ne (e - m).toNat m := by
  rw [show (e - p).toNat = (m - p).toNat + (e - m).toNat by omega, bet_app, show p + ((m - p).toNat : Int) = m by omega]
/-- the body with the argument for its variable -/
theorem tL_bet {g D q : Int → Int} {u e c : Int} {f2 : Nat} (ta : tm g f2 c u e) (qa : dp g q f2 0 u e) (hc : 0 ≤ c) : ∀ {f : Nat} {j x y : Int}, tm g f (c + 1 + j) x y → dp g D f j x y → 0 ≤ j → tL (f + f2) (c + j) (bet g D q u (e - u).toNat (y - x).toNat x) := by
  intro f
  induction f with
  | zero => intro j x y h; exact h.elim
  | succ f ih =>
    intro j x y h hd hj
    have hlt := tm_lt h
    rw [show (y - x).toNat = (y - (x + 1)).toNat + 1 by omega]
    show tL _ _ (bpc g D q u (e - u).toNat x ++ bet g D q u (e - u).toNat (y - (x + 1)).toNat (x + 1))
    rcases hd with ⟨d0, hd⟩
    rw [show f + 1 + f2 = (f + f2) + 1 by omega]
    rcases h with ⟨h0, m, z1, z2⟩ | ⟨h0, z1⟩ | ⟨h0, z1, z2⟩
    · have l1 := tm_lt z1; have l2 := tm_lt z2
      rcases hd with ⟨_, v, y1, y2⟩ | ⟨w0, _⟩ | ⟨w0, _⟩ <;> try omega
      have : m = v := dp_tm_end z1 y1
      subst this
      rw [bpc_3 (by omega), h0, bet_cut (m := m) (by omega) (by omega)]
      exact Or.inl ⟨bet g D q u (e - u).toNat (m - (x + 1)).toNat (x + 1), bet g D q u (e - u).toNat (y - m).toNat m, rfl, ih z1 y1 hj, ih z2 y2 hj⟩
    · have l1 := tm_lt z1
      rcases hd with ⟨w0, _⟩ | ⟨_, y1⟩ | ⟨w0, _⟩ <;> try omega
      rw [bpc_3 (by omega), h0]
      refine Or.inr (Or.inl ⟨_, rfl, ?_⟩)
      have := ih (j := j + 1) (by rw [show c + 1 + (j + 1) = c + 1 + j + 1 by omega]; exact z1) y1 (by omega)
      rw [show c + j + 1 = c + (j + 1) by omega]
      exact this
    · rw [z2, show (x + 1 - (x + 1)).toNat = 0 by omega]
      show tL _ _ (bpc g D q u (e - u).toNat x ++ [])
      rw [List.append_nil]
      by_cases hv : g x - 10 = D x
      · rw [bpc_1 hv, d0]
        have := tL_rs (g := g) (q := q) (m := j) (c := c) (Or.inl hj) (j := 0) (by rw [show c + 0 = c by omega]; exact ta) qa (by omega) (by omega) (fun z => by omega)
        rw [show c + j + 0 = c + j by omega] at this
        exact tL_le (by omega) this
      · by_cases hw : D x < g x - 10
        · rw [bpc_2 hw]
          exact Or.inr (Or.inr ⟨_, rfl, by omega, by omega⟩)
        · rw [bpc_3 (by omega)]
          exact Or.inr (Or.inr ⟨_, rfl, by omega, by omega⟩)
/-- what a redex becomes is a term -/
theorem bec_tL {g : Int → Int} {w p e k : Int} {f : Nat} {l : List Int} (t : tm g f k p e) (hk : 0 ≤ k) (hc : cnd g w p) (hb : bec g w p e l) : ∃ F, tL F k l := by
  rcases hb with ⟨hw, m, f1, k1, q, t1, q1, rfl⟩ | ⟨hw, h1, u, f1, k1, f2, k2, D, q, t1, t2, q1, q2, rfl⟩ | ⟨hw, h1, rfl⟩ | ⟨hw, h1, h2, m, f1, k1, t1, rfl⟩ | ⟨hw, h1, h2, h3, b, c, f1, k1, t1, t2, t3, rfl⟩
  · rcases hc with ⟨_, h1, h2, m', f', k', D', t1', q1', _, hn⟩ | ⟨h, _⟩
    · obtain ⟨f3, t3, _⟩ := tm_lam t h1
      obtain ⟨f4, m2, t4, t5, _⟩ := tm_app t3 h2
      rw [show p + 1 + 1 = p + 2 by omega] at t4
      have e1 := tm_one t4 t1; have e2 := tm_one t1 t1'
      subst e1; subst e2
      have t6 := tm_small t4 ((m2 - (p + 2)).toNat) (Nat.le_refl _)
      have hq := (dp_one q1 q1').2
      have q6 := dp_small q1 ((m2 - (p + 2)).toNat) (Nat.le_refl _)
      have := tL_rs (g := g) (q := q) (m := -1) (c := k + 1) (Or.inr rfl) (j := 0) (by rw [show k + 1 + 0 = k + 1 by omega]; exact t6) q6 (by omega) (by omega) (fun _ i z y => by rw [hq i z y]; exact hn i z y)
      rw [show k + 1 + -1 + 0 = k by omega] at this
      exact ⟨_, this⟩
    · exact absurd hw h
  · have h0 : g p = 0 := by
      rcases hc with ⟨h, _⟩ | ⟨_, h, _⟩
      · exact absurd h hw
      · exact (rdx_c h).1
    obtain ⟨f3, f4, u', t3, t4⟩ := red_L t h0 h1
    have e1 := tm_one t3 t1
    subst e1
    have t5 := tm_small t3 ((u' - (p + 2)).toNat) (Nat.le_refl _)
    have t6 := tm_small t4 ((e - u').toNat) (Nat.le_refl _)
    have q5 := dp_small q1 ((u' - (p + 2)).toNat) (Nat.le_refl _)
    have q6 := dp_small q2 ((e - u').toNat) (Nat.le_refl _)
    have := tL_bet t6 q6 hk (j := 0) (by rw [show k + 1 + 0 = k + 1 by omega]; exact t5) q5 (by omega)
    rw [show k + 0 = k by omega] at this
    exact ⟨_, this⟩
  · have h0 : g p = 0 := by
      rcases hc with ⟨h, _⟩ | ⟨_, h, _⟩
      · exact absurd h hw
      · exact (rdx_c h).1
    obtain ⟨f3, t3⟩ := red_I t h0 h1
    exact ⟨_, tm_tL t3⟩
  · have h0 : g p = 0 := by
      rcases hc with ⟨h, _⟩ | ⟨_, h, _⟩
      · exact absurd h hw
      · exact (rdx_c h).1
    obtain ⟨f3, m', t3, _⟩ := red_K t h0 h1 h2
    have e1 := tm_one t3 t1
    subst e1
    exact ⟨_, tm_tL t3⟩
  · have h0 : g p = 0 := by
      rcases hc with ⟨h, _⟩ | ⟨_, h, _⟩
      · exact absurd h hw
      · exact (rdx_c h).1
    obtain ⟨f3, b', c', t4, t5, t6⟩ := red_S t h0 h1 h2 h3
    have e1 := tm_one t4 t1
    subst e1
    have e2 := tm_one t5 t2
    subst e2
    have l1 := tm_lt t5; have l2 := tm_lt t6
    refine ⟨f3 + 2, Or.inl ⟨0 :: (rg g (b' - (p + 4)).toNat (p + 4) ++ rg g (e - c').toNat c'), 0 :: rg g (e - b').toNat b', ?_, Or.inl ⟨_, _, rfl, tm_tL t4, tm_tL t6⟩, ?_⟩⟩
    · simp only [List.cons_append, List.append_assoc, List.nil_append]
    · rw [rg_cut (m := c') (by omega) (by omega)]
      exact Or.inl ⟨_, _, rfl, tm_tL t5, tm_tL t6⟩
/-- a step leaves a term -/
theorem step_tL {g : Int → Int} {w p e z k k1 : Int} {f f1 : Nat} {l : List Int} (t : tm g f k 0 z) (hk : 0 ≤ k) (hp0 : 0 ≤ p) (hp : p < z) (tp : tm g f1 k1 p e) (hc : cnd g w p) (hb : bec g w p e l) : ∃ F, tL F k (rg g p.toNat 0 ++ l ++ rg g (z - e).toNat e) := by
  obtain ⟨f', k', e', t1, h1, h2, h3, hh⟩ := tm_put t p hp0 hp
  have := tm_one t1 tp
  subst this
  obtain ⟨F, hF⟩ := bec_tL t1 (by omega) hc hb
  have := hh l F hF
  rw [show (p - 0).toNat = p.toNat by omega] at this
  exact ⟨_, this⟩
