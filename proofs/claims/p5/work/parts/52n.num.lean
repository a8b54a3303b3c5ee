/-! the number that a code is: links behind one another, as a relation of one answer -/
def chm (g : Int → Int) (sz lk la p r : Int) : Prop := ∃ m : Int, 0 ≤ m ∧ (∀ j, 0 ≤ j → j < m → p + 2 * j + 2 < sz ∧ g (p + 2 * j) = 0 ∧ g (p + 2 * j + 1) = lk) ∧ p + 2 * m < sz ∧ ¬ (g (p + 2 * m) = 0 ∧ g (p + 2 * m + 1) = lk) ∧ ((g (p + 2 * m) = la ∧ p + 2 * m + 1 = sz ∧ r = m) ∨ (¬ (g (p + 2 * m) = la ∧ p + 2 * m + 1 = sz) ∧ r = -4))
theorem chm_one {g g' : Int → Int} {sz lk la p r r' : Int} (hp : 0 ≤ p) (he : ∀ j, 0 ≤ j → j < sz → g' j = g j) (h : chm g sz lk la p r) (h' : chm g' sz lk la p r') : r = r' := by
  obtain ⟨m, m0, m1, m2, m3, m4⟩ := h
  obtain ⟨n, n0, n1, n2, n3, n4⟩ := h'
  rcases Int.lt_trichotomy m n with c | c | c
  · obtain ⟨z1, z2, z3⟩ := n1 m m0 c
    rw [he _ (by omega) (by omega)] at z2 z3
    exact absurd ⟨z2, z3⟩ m3
  · subst c
    rw [he _ (by omega) (by omega)] at n4
    rcases m4 with ⟨a1, a2, a3⟩ | ⟨a1, a2⟩ <;> rcases n4 with ⟨b1, b2, b3⟩ | ⟨b1, b2⟩
    · omega
    · exact absurd ⟨a1, a2⟩ b1
    · exact absurd ⟨b1, b2⟩ a1
    · omega
  · obtain ⟨z1, z2, z3⟩ := m1 n n0 c
    rw [← he _ (by omega) (by omega)] at z2
    rw [← he _ (by omega) (by omega)] at z3
    exact absurd ⟨z2, z3⟩ n3
theorem chm_4 {g : Int → Int} {sz lk la p r : Int} (h0 : g p ≠ 0) (h1 : g p ≠ la) (h : chm g sz lk la p r) : r = -4 := by
  obtain ⟨m, m0, m1, m2, m3, m4⟩ := h
  by_cases c : m = 0
  · subst c
    rw [show p + 2 * 0 = p by omega] at m4
    rcases m4 with ⟨a1, a2, a3⟩ | ⟨a1, a2⟩
    · exact absurd a1 h1
    · exact a2
  · obtain ⟨_, z, _⟩ := m1 0 (by omega) (by omega)
    rw [show p + 2 * 0 = p by omega] at z
    exact absurd z h0
/-- the number that the code g, sz long, is -/
def nbR (g : Int → Int) (sz r : Int) : Prop := (g 0 ≠ 1 ∧ chm g sz 5 6 0 r) ∨ (g 0 = 1 ∧ g 1 = 1 ∧ chm g sz 11 10 2 r) ∨ (g 0 = 1 ∧ g 1 ≠ 1 ∧ ((g 1 = 10 ∧ r = 1) ∨ (g 1 ≠ 10 ∧ r = -4)))
theorem nbR_one {g g' : Int → Int} {sz r r' k : Int} {f : Nat} (t : tm g f k 0 sz) (he : ∀ j, 0 ≤ j → j < sz → g' j = g j) (h : nbR g sz r) (h' : nbR g' sz r') : r = r' := by
  have l := tm_lt t
  have e0 := he 0 (by omega) (by omega)
  unfold nbR at h'
  rw [e0] at h'
  by_cases c : g 0 = 1
  · obtain ⟨f1, t1, _⟩ := tm_lam t c
    have l1 := tm_lt t1
    have e1 := he 1 (by omega) (by omega)
    rw [e1] at h'
    rcases h with ⟨a1, a2⟩ | ⟨a1, a2, a3⟩ | ⟨a1, a2, a3⟩ <;> rcases h' with ⟨b1, b2⟩ | ⟨b1, b2, b3⟩ | ⟨b1, b2, b3⟩ <;> try omega
    exact chm_one (by omega) he a3 b3
  · rcases h with ⟨a1, a2⟩ | ⟨a1, _⟩ | ⟨a1, _⟩ <;> try omega
    rcases h' with ⟨b1, b2⟩ | ⟨b1, _⟩ | ⟨b1, _⟩ <;> try omega
    exact chm_one (by omega) he a2 b2
/-- a link: what is behind it is a term again -/
theorem tm_link {g : Int → Int} {f : Nat} {k p e : Int} (t : tm g f k p e) (h0 : g p = 0) (h1 : 2 ≤ g (p + 1)) : p + 2 < e ∧ ∃ f', tm g f' k (p + 2) e := by
  obtain ⟨f1, m, t1, t2, _⟩ := tm_app t h0
  obtain ⟨e1, _⟩ := tm_lf t1 h1
  rw [show m = p + 2 by omega] at t2
  exact ⟨tm_lt t2, f1, t2⟩
theorem num_f {g : Int → Int} {f : Nat} {k sz : Int} (t : tm g f k 0 sz) : (g 0 ≠ 1 ∨ 2 ≤ sz) ∧ (g 0 ≠ 1 ∨ g 1 ≠ 10 ∨ sz = 2) ∧ (g 0 ≠ 1 ∨ g 1 ≠ 1 ∨ 2 < sz) := by
  by_cases c : g 0 = 1
  · obtain ⟨f1, t1, _⟩ := tm_lam t c
    rw [show (0 : Int) + 1 = 1 by omega] at t1
    have l1 := tm_lt t1
    refine ⟨Or.inr (by omega), ?_, ?_⟩
    · by_cases d : g 1 = 10
      · have := (tm_lf t1 (by omega)).1
        exact Or.inr (Or.inr (by omega))
      · exact Or.inr (Or.inl d)
    · by_cases d : g 1 = 1
      · obtain ⟨f2, t2, _⟩ := tm_lam t1 d
        have := tm_lt t2
        exact Or.inr (Or.inr (by omega))
      · exact Or.inr (Or.inl d)
  · exact ⟨Or.inl c, Or.inl c, Or.inl c⟩
theorem num_t2 {g : Int → Int} {f : Nat} {k sz : Int} (t : tm g f k 0 sz) (h0 : g 0 = 1) (h1 : g 1 = 1) : ∃ f', tm g f' (k + 1 + 1) 2 sz := by
  obtain ⟨f1, t1, _⟩ := tm_lam t h0
  rw [show (0 : Int) + 1 = 1 by omega] at t1
  obtain ⟨f2, t2, _⟩ := tm_lam t1 h1
  rw [show (1 : Int) + 1 = 2 by omega] at t2
  exact ⟨f2, t2⟩
theorem num_0 {g : Int → Int} {sz r : Int} (h1 : g 0 ≠ 1 ∨ (g 1 ≠ 1 ∧ g 1 ≠ 10)) (h : chm g sz 5 6 0 r) : nbR g sz r := by
  by_cases c : g 0 = 1
  · have h2 := chm_4 (by omega) (by omega) h
    exact Or.inr (Or.inr ⟨c, by omega, Or.inr ⟨by omega, h2⟩⟩)
  · exact Or.inl ⟨c, h⟩
theorem stp_r {w r : Int} {l l1 : List Int} (h : stp w l r l1) : r = 0 ∨ r = -3 ∨ r = 1 := by
  obtain ⟨g, hg, h⟩ := h
  rcases h with ⟨_, h, _⟩ | ⟨p, e, f1, k1, b, _, _, _, _, h⟩
  · omega
  · rcases h with ⟨_, h, _⟩ | ⟨_, h, _⟩ <;> omega
/-- n steps at most, the greatest G0 so far: k how many, e how it ended, G the greatest, l' the code behind -/
def stx (w : Int) : Nat → Int → List Int → Int → Int → Int → List Int → Prop
  | 0, G0, l, k, e, G, l' => k = 0 ∧ e = 1 ∧ G = G0 ∧ l' = l
  | n + 1, G0, l, k, e, G, l' => ∃ r l1, stp w l r l1 ∧ ((r ≠ 1 ∧ k = 0 ∧ ((r = -3 ∧ e = 2) ∨ (r ≠ -3 ∧ e = 0)) ∧ G = G0 ∧ l' = l1) ∨ (r = 1 ∧ stx w n (max G0 l1.length) l1 (k - 1) e G l'))
theorem stx_sts {w : Int} : ∀ {n : Nat} {G0 k e G : Int} {l l' : List Int}, stx w n G0 l k e G l' → sts w n l l' := by
  intro n
  induction n with
  | zero => intro G0 k e G l l' h; exact h.2.2.2
  | succ n ih =>
    intro G0 k e G l l' h
    obtain ⟨r, l1, h1, h2⟩ := h
    rcases h2 with ⟨a1, _, _, _, a2⟩ | ⟨a1, a2⟩
    · exact ⟨r, l1, h1, Or.inl ⟨a1, a2⟩⟩
    · exact ⟨r, l1, h1, Or.inr ⟨a1, ih a2⟩⟩
theorem stx_one {w : Int} : ∀ {n : Nat} {G0 k e G k' e' G' : Int} {l l1 l2 : List Int} {f : Nat}, l.length ≤ 500 → tL f 0 l → stx w n G0 l k e G l1 → stx w n G0 l k' e' G' l2 → k' = k ∧ e' = e ∧ G' = G ∧ l2 = l1 := by
  intro n
  induction n with
  | zero =>
    intro G0 k e G k' e' G' l l1 l2 f _ _ h h'
    obtain ⟨a1, a2, a3, a4⟩ := h
    obtain ⟨b1, b2, b3, b4⟩ := h'
    exact ⟨by omega, by omega, by omega, by rw [a4, b4]⟩
  | succ n ih =>
    intro G0 k e G k' e' G' l l1 l2 f hl t h h'
    obtain ⟨r, m, h1, h2⟩ := h
    obtain ⟨r', m', h1', h2'⟩ := h'
    obtain ⟨e1, e2⟩ := stp_one t h1 h1'
    subst e1; subst e2
    obtain ⟨hm, F, tm⟩ := stp_ok t hl h1
    rcases h2 with ⟨a1, a2, a3, a4, a5⟩ | ⟨a1, a2⟩ <;> rcases h2' with ⟨b1, b2, b3, b4, b5⟩ | ⟨b1, b2⟩ <;> try omega
    · exact ⟨by omega, by omega, by omega, by rw [a5, b5]⟩
    · obtain ⟨c1, c2, c3, c4⟩ := ih hm tm a2 b2
      exact ⟨by omega, c2, c3, c4⟩
theorem stx_b {w : Int} : ∀ {n : Nat} {G0 k e G : Int} {l l1 : List Int} {f : Nat}, l.length ≤ 500 → tL f 0 l → 0 ≤ G0 → G0 ≤ 500 → stx w n G0 l k e G l1 → 0 ≤ e ∧ e ≤ 2 ∧ 0 ≤ G ∧ G ≤ 500 := by
  intro n
  induction n with
  | zero =>
    intro G0 k e G l l1 f _ _ _ _ h
    obtain ⟨a1, a2, a3, a4⟩ := h
    omega
  | succ n ih =>
    intro G0 k e G l l1 f hl t g0 g1 h
    obtain ⟨r, m, h1, h2⟩ := h
    obtain ⟨hm, F, tm⟩ := stp_ok t hl h1
    rcases h2 with ⟨a1, a2, a3, a4, a5⟩ | ⟨a1, a2⟩
    · omega
    · exact ih hm tm (by omega) (by omega) a2
