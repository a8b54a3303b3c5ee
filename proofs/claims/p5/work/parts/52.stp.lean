/-! A STEP OF A CODE, AS A LIST: one answer for one code -/
theorem tm_eq {g g' : Int → Int} {f : Nat} {k p e : Int} (h : ∀ j, p ≤ j → j < e → g' j = g j) (t : tm g f k p e) : tm g' f k p e := by
  have := tm_congr (g' := g') (o := 0) (fun j z y => by rw [show j + 0 = j by omega]; exact h j z y) t
  rw [show p + 0 = p by omega, show e + 0 = e by omega] at this
  exact this
theorem dp_eq {g g' D : Int → Int} : ∀ {f : Nat} {k p e : Int}, (∀ j, p ≤ j → j < e → g' j = g j) → dp g D f k p e → dp g' D f k p e := by
  intro f
  induction f with
  | zero => intro k p e _ h; exact h.elim
  | succ f ih =>
    intro k p e hg h
    have hp := hg p (by omega) (dp_lt h)
    rcases h with ⟨hd, ⟨h0, m, h1, h2⟩ | ⟨h0, h1⟩ | ⟨h0, h1⟩⟩
    · have := dp_lt h1; have := dp_lt h2
      exact ⟨by omega, Or.inl ⟨by omega, m, ih (fun j z y => hg j (by omega) (by omega)) h1, ih (fun j z y => hg j (by omega) (by omega)) h2⟩⟩
    · exact ⟨by omega, Or.inr (Or.inl ⟨by omega, ih (fun j z y => hg j (by omega) (by omega)) h1⟩)⟩
    · exact ⟨by omega, Or.inr (Or.inr ⟨by omega, by omega⟩)⟩
theorem rdx_eq {g g' : Int → Int} {f : Nat} {k p e : Int} (t : tm g f k p e) (h : ∀ j, p ≤ j → j < e → g' j = g j) : rdx g' p = rdx g p := by
  have lt := tm_lt t
  have e0 := h p (by omega) lt
  unfold rdx
  rw [e0]
  by_cases h0 : g p = 0
  · obtain ⟨f1, m, t1, t2, _⟩ := tm_app t h0
    have l1 := tm_lt t1; have l2 := tm_lt t2
    have e1 := h (p + 1) (by omega) (by omega)
    rw [e1]
    by_cases h1 : g (p + 1) = 0
    · obtain ⟨f2, m2, t3, t4, _⟩ := tm_app t1 h1
      have l3 := tm_lt t3; have l4 := tm_lt t4
      rw [show p + 1 + 1 = p + 2 by omega] at t3 l3
      have e2 := h (p + 2) (by omega) (by omega)
      rw [e2]
      by_cases h2 : g (p + 2) = 0
      · obtain ⟨f3, m3, t5, t6, _⟩ := tm_app t3 h2
        have l5 := tm_lt t5; have l6 := tm_lt t6
        rw [show p + 2 + 1 = p + 3 by omega] at l5
        rw [h (p + 3) (by omega) (by omega)]
      · simp [h2]
    · simp [h1]
  · simp [h0]
theorem thn_eq {g g' : Int → Int} {f : Nat} {k p e : Int} (t : tm g f k p e) (h : ∀ j, p ≤ j → j < e → g' j = g j) (ht : thn g p) : thn g' p := by
  obtain ⟨h1, h2, m, f1, k1, D, t1, d1, h3, h4⟩ := ht
  obtain ⟨f3, t3, _⟩ := tm_lam t h1
  obtain ⟨f4, m2, t4, t5, _⟩ := tm_app t3 h2
  rw [show p + 1 + 1 = p + 2 by omega] at t4
  have e1 := tm_one t4 t1
  subst e1
  have l1 := tm_lt t4; have l2 := tm_lt t5; have l0 := tm_lt t
  exact ⟨by rw [h p (by omega) (by omega)]; exact h1, by rw [h (p + 1) (by omega) (by omega)]; exact h2, m2, f1, k1, D, tm_eq (fun j z y => h j (by omega) (by omega)) t1, dp_eq (fun j z y => h j (by omega) (by omega)) d1, by rw [h m2 (by omega) (by omega)]; exact h3, fun j z y => by rw [h j (by omega) (by omega)]; exact h4 j z y⟩
theorem cnd_eq {g g' : Int → Int} {f : Nat} {k z w p : Int} (t : tm g f k 0 z) (h : ∀ j, 0 ≤ j → j < z → g' j = g j) (h0 : 0 ≤ p) (hp : p < z) (hc : cnd g w p) : cnd g' w p := by
  obtain ⟨f1, k1, e, tp, he, _⟩ := tm_sub t p h0 hp
  have lp := tm_lt tp
  rcases hc with ⟨hw, hc⟩ | ⟨hw, hr, h1, h2⟩
  · exact Or.inl ⟨hw, thn_eq tp (fun j z y => h j (by omega) (by omega)) hc⟩
  · refine Or.inr ⟨hw, by rw [rdx_eq tp (fun j z y => h j (by omega) (by omega))]; exact hr, fun hw m f' k' tm' j a b => ?_, fun hw j a b => by rw [h j (by omega) (by omega)]; exact h2 hw j a b⟩
    have tp' := tm_eq (g' := g') (fun j z y => h j (by omega) (by omega)) tp
    have em := tm_one tp' tm'
    subst em
    obtain ⟨f3, k3, e3, t3, he3, _⟩ := tm_sub tp j (by omega) b
    rw [rdx_eq t3 (fun i z y => h i (by omega) (by omega))]
    exact h1 hw e f1 k1 tp j a b
theorem nrx_eq {g g' : Int → Int} {f : Nat} {k z w r : Int} (t : tm g f k 0 z) (h : ∀ j, 0 ≤ j → j < z → g' j = g j) (hn : nrx g z w r) : nrx g' z w r := by
  have t' := tm_eq h t
  have h' : ∀ j, 0 ≤ j → j < z → g j = g' j := fun j a b => (h j a b).symm
  rcases hn with ⟨h1, h2⟩ | ⟨h1, h2, h3, h4⟩
  · exact Or.inl ⟨h1, fun p a b c => h2 p a b (cnd_eq t' h' a b c)⟩
  · exact Or.inr ⟨h1, h2, cnd_eq t h h1 h2 h3, fun p a b c => h4 p a b (cnd_eq t' h' a (by omega) c)⟩
theorem rs_eq {g g' q q' : Int → Int} {m : Int} {n : Nat} {p : Int} (h : ∀ j, p ≤ j → j < p + n → g' j = g j ∧ q' j = q j) : rg (rsI g' q' m) n p = rg (rsI g q m) n p := rg_eq (fun j z y => by
  obtain ⟨h1, h2⟩ := h j z y
  unfold rsI
  rw [h1, h2])
theorem bet_eq {g g' D D' q q' : Int → Int} {u : Int} {ne : Nat} (ha : ∀ j, u ≤ j → j < u + ne → g' j = g j ∧ q' j = q j) : ∀ {n : Nat} {p : Int}, (∀ j, p ≤ j → j < p + n → g' j = g j ∧ D' j = D j) → bet g' D' q' u ne n p = bet g D q u ne n p := by
  intro n
  induction n with
  | zero => intro p _; rfl
  | succ n ih =>
    intro p h
    show bpc g' D' q' u ne p ++ bet g' D' q' u ne n (p + 1) = bpc g D q u ne p ++ bet g D q u ne n (p + 1)
    rw [ih (fun j z y => h j (by omega) (by omega))]
    congr 1
    obtain ⟨h1, h2⟩ := h p (by omega) (by omega)
    unfold bpc
    rw [h1, h2, rs_eq ha]
/-- what a redex becomes is one list, the same for codes that are alike -/
theorem bec_one {g g' : Int → Int} {w p e k : Int} {f : Nat} {l l' : List Int} (t : tm g f k p e) (h : ∀ j, p ≤ j → j < e → g' j = g j) (hc : cnd g w p) (hb : bec g w p e l) (hb' : bec g' w p e l') : l' = l := by
  have lt := tm_lt t
  have h0 : w ≠ 3 → g p = 0 := fun hw => by
    rcases hc with ⟨h, _⟩ | ⟨_, h, _⟩
    · exact absurd h hw
    · exact (rdx_c h).1
  have hs : w ≠ 3 → p + 1 < e := fun hw => by
    obtain ⟨f1, m, t1, t2, _⟩ := tm_app t (h0 hw)
    have := tm_lt t1; have := tm_lt t2; omega
  have g1 : w ≠ 3 → g' (p + 1) = g (p + 1) := fun hw => h (p + 1) (by omega) (hs hw)
  have hs2 : w ≠ 3 → g (p + 1) = 0 → p + 2 < e ∧ g' (p + 2) = g (p + 2) := fun hw h1 => by
    obtain ⟨f1, m, t1, t2, _⟩ := tm_app t (h0 hw)
    obtain ⟨f2, m2, t3, t4, _⟩ := tm_app t1 h1
    have := tm_lt t1; have := tm_lt t2; have := tm_lt t3; have := tm_lt t4
    exact ⟨by omega, h (p + 2) (by omega) (by omega)⟩
  rcases hb with ⟨hw, m, f1, k1, q, t1, q1, rfl⟩ | ⟨hw, h1, u, f1, k1, f2, k2, D, q, t1, t2, q1, q2, rfl⟩ | ⟨hw, h1, rfl⟩ | ⟨hw, h1, h2, m, f1, k1, t1, rfl⟩ | ⟨hw, h1, h2, h3, b, c, f1, k1, t1, t2, t3, rfl⟩
  · rcases hc with ⟨_, h1, h2, _⟩ | ⟨h, _⟩
    · obtain ⟨f3, t3, _⟩ := tm_lam t h1
      obtain ⟨f4, m2, t4, t5, _⟩ := tm_app t3 h2
      rw [show p + 1 + 1 = p + 2 by omega] at t4
      have e1 := tm_one t4 t1
      subst e1
      have l5 := tm_lt t5
      rcases hb' with ⟨_, m', f1', k1', q', t1', q1', rfl⟩ | ⟨hw', _⟩ | ⟨hw', _⟩ | ⟨hw', _⟩ | ⟨hw', _⟩
      · have t6 := tm_eq (g' := g') (fun j z y => h j (by omega) (by omega)) t4
        have e2 := tm_one t6 t1'
        subst e2
        have q3 := dp_eq (g' := g') (fun j z y => h j (by omega) (by omega)) q1
        have hq := (dp_one q1' q3).2
        exact rs_eq (fun j z y => ⟨h j (by omega) (by omega), hq j z (by omega)⟩)
      all_goals exact absurd hw hw'
    · exact absurd hw h
  all_goals have gg := g1 hw
  · have l1 := tm_lt t1; have l2 := tm_lt t2
    rcases hb' with ⟨hw', _⟩ | ⟨_, _, u', f1', k1', f2', k2', D', q', t1', t2', q1', q2', rfl⟩ | ⟨hw', h1', _⟩ | ⟨hw', h1', _⟩ | ⟨hw', h1', _⟩ <;> try omega
    have t6 := tm_eq (g' := g') (fun j z y => h j (by omega) (by omega)) t1
    have e2 := tm_one t6 t1'
    subst e2
    have q3 := dp_eq (g' := g') (fun j z y => h j (by omega) (by omega)) q1
    have q4 := dp_eq (g' := g') (fun j z y => h j (by omega) (by omega)) q2
    have hD := (dp_one q1' q3).2
    have hq := (dp_one q2' q4).2
    exact bet_eq (fun j z y => ⟨h j (by omega) (by omega), hq j z (by omega)⟩) (fun j z y => ⟨h j (by omega) (by omega), hD j z (by omega)⟩)
  · rcases hb' with ⟨hw', _⟩ | ⟨hw', h1', _⟩ | ⟨hw', h1', rfl⟩ | ⟨hw', h1', _⟩ | ⟨hw', h1', _⟩ <;> try omega
    exact rg_eq (fun j z y => h j (by omega) (by omega))
  · obtain ⟨s1, s2⟩ := hs2 hw h1
    rcases hb' with ⟨hw', _⟩ | ⟨hw', h1', _⟩ | ⟨hw', h1', _⟩ | ⟨hw', h1', h2', m', f1', k1', t1', rfl⟩ | ⟨hw', h1', h2', _⟩ <;> try omega
    obtain ⟨f3, m2, t3, t4⟩ := red_K t (h0 hw) h1 h2
    have e1 := tm_one t3 t1
    subst e1
    have l4 := tm_lt t4; have l3 := tm_lt t3
    have t6 := tm_eq (g' := g') (fun j z y => h j (by omega) (by omega)) t3
    have e2 := tm_one t6 t1'
    subst e2
    exact rg_eq (fun j z y => h j (by omega) (by omega))
  · obtain ⟨s1, s2⟩ := hs2 hw h1
    rcases hb' with ⟨hw', _⟩ | ⟨hw', h1', _⟩ | ⟨hw', h1', _⟩ | ⟨hw', h1', h2', _⟩ | ⟨hw', h1', h2', h3', b', c', f1', k1', t1', t2', t3', rfl⟩ <;> try omega
    have l1 := tm_lt t1; have l2 := tm_lt t2; have l3 := tm_lt t3
    have e1 := tm_one (tm_eq (g' := g') (fun j z y => h j (by omega) (by omega)) t1) t1'
    subst e1
    have e2 := tm_one (tm_eq (g' := g') (fun j z y => h j (by omega) (by omega)) t2) t2'
    subst e2
    rw [rg_eq (g := g) (g' := g') (p := p + 4) (fun j z y => h j (by omega) (by omega)), rg_eq (g := g) (g' := g') (p := c) (fun j z y => h j (by omega) (by omega)), rg_eq (g := g) (g' := g') (p := b) (fun j z y => h j (by omega) (by omega))]
/-- a step of way w of the code l: r the answer, l' the code behind it -/
def stp (w : Int) (l : List Int) (r : Int) (l' : List Int) : Prop := ∃ g : Int → Int, rg g l.length 0 = l ∧ ((nrx g l.length w (-4) ∧ r = 0 ∧ l' = l) ∨ ∃ p e f k b, nrx g l.length w p ∧ 0 ≤ p ∧ tm g f k p e ∧ bec g w p e b ∧ ((500 < (rg g p.toNat 0 ++ b ++ rg g ((l.length : Int) - e).toNat e).length ∧ r = -3 ∧ l' = l) ∨ ((rg g p.toNat 0 ++ b ++ rg g ((l.length : Int) - e).toNat e).length ≤ 500 ∧ r = 1 ∧ l' = rg g p.toNat 0 ++ b ++ rg g ((l.length : Int) - e).toNat e)))
theorem rg_same {g g' : Int → Int} {l : List Int} (h : rg g l.length 0 = l) (h' : rg g' l.length 0 = l) : ∀ j, 0 ≤ j → j < (l.length : Int) → g' j = g j := by
  intro j z y
  have := rg_at (h'.trans h.symm) j z y
  rw [show (0 : Int) + j = j by omega] at this
  exact this
theorem tL_tm0 {g : Int → Int} {f : Nat} {k : Int} {l : List Int} (t : tL f k l) (h : rg g l.length 0 = l) : tm g f k 0 l.length := by
  have := tL_tm t h
  rw [show (0 : Int) + (l.length : Int) = (l.length : Int) by omega] at this
  exact this
theorem nrx_pos {g : Int → Int} {z w p : Int} (h : nrx g z w p) (h0 : 0 ≤ p) : p < z ∧ cnd g w p := by
  rcases h with ⟨h1, _⟩ | ⟨_, h1, h2, _⟩
  · omega
  · exact ⟨h1, h2⟩
theorem stp_one {w r r' : Int} {l l1 l2 : List Int} {f : Nat} (t : tL f 0 l) (h : stp w l r l1) (h' : stp w l r' l2) : r' = r ∧ l2 = l1 := by
  obtain ⟨g, hg, h⟩ := h
  obtain ⟨g', hg', h'⟩ := h'
  have tg := tL_tm0 t hg
  have he := rg_same hg hg'
  rcases h with ⟨h1, h2, h3⟩ | ⟨p, e, f1, k1, b, h1, h2, h3, h4, h5⟩
  · have h1' := nrx_eq tg he h1
    rcases h' with ⟨_, h2', h3'⟩ | ⟨p', e', f1', k1', b', h1'', h2', _⟩
    · exact ⟨by omega, by rw [h3, h3']⟩
    · have := nrx_one h1' h1''
      omega
  · have h1' := nrx_eq tg he h1
    rcases h' with ⟨h1'', _⟩ | ⟨p', e', f1', k1', b', h1'', h2', h3', h4', h5'⟩
    · have := nrx_one h1' h1''
      omega
    · have e1 := nrx_one h1' h1''
      subst e1
      obtain ⟨hp, hc⟩ := nrx_pos h1 h2
      obtain ⟨f3, k3, e3, tp, he3, _⟩ := tm_sub tg p h2 hp
      have e2 := tm_one tp h3
      subst e2
      have lp := tm_lt tp
      have e4 := tm_one (tm_eq (g' := g') (fun j z y => he j (by omega) (by omega)) tp) h3'
      subst e4
      have e5 := bec_one tp (fun j z y => he j (by omega) (by omega)) hc h4 h4'
      subst e5
      have e6 : rg g' p.toNat 0 ++ b' ++ rg g' ((l.length : Int) - e3).toNat e3 = rg g p.toNat 0 ++ b' ++ rg g ((l.length : Int) - e3).toNat e3 := by
        rw [rg_eq (g := g) (g' := g') (p := 0) (fun j z y => he j (by omega) (by omega)), rg_eq (g := g) (g' := g') (p := e3) (fun j z y => he j (by omega) (by omega))]
      rw [e6] at h5'
      rcases h5 with ⟨a1, a2, a3⟩ | ⟨a1, a2, a3⟩ <;> rcases h5' with ⟨b1, b2, b3⟩ | ⟨b1, b2, b3⟩ <;> try omega
      · exact ⟨by omega, by rw [a3, b3]⟩
      · exact ⟨by omega, by rw [a3, b3]⟩
theorem stp_ok {w r : Int} {l l1 : List Int} {f : Nat} (t : tL f 0 l) (hl : l.length ≤ 500) (h : stp w l r l1) : l1.length ≤ 500 ∧ ∃ F, tL F 0 l1 := by
  obtain ⟨g, hg, h⟩ := h
  have tg := tL_tm0 t hg
  rcases h with ⟨h1, h2, h3⟩ | ⟨p, e, f1, k1, b, h1, h2, h3, h4, h5⟩
  · subst h3; exact ⟨hl, f, t⟩
  · obtain ⟨hp, hc⟩ := nrx_pos h1 h2
    rcases h5 with ⟨a1, a2, a3⟩ | ⟨a1, a2, a3⟩
    · subst a3; exact ⟨hl, f, t⟩
    · rw [a3]
      exact ⟨a1, step_tL tg (by omega) h2 hp h3 hc h4⟩
/-- n steps at most -/
def sts (w : Int) : Nat → List Int → List Int → Prop
  | 0, l, l' => l' = l
  | n + 1, l, l' => ∃ r l1, stp w l r l1 ∧ ((r ≠ 1 ∧ l' = l1) ∨ (r = 1 ∧ sts w n l1 l'))
theorem sts_one {w : Int} : ∀ {n : Nat} {l l1 l2 : List Int} {f : Nat}, l.length ≤ 500 → tL f 0 l → sts w n l l1 → sts w n l l2 → l2 = l1 := by
  intro n
  induction n with
  | zero => intro l l1 l2 f _ _ h h'; exact (show l2 = l from h').trans (show l1 = l from h).symm
  | succ n ih =>
    intro l l1 l2 f hl t h h'
    obtain ⟨r, m, h1, h2⟩ := h
    obtain ⟨r', m', h1', h2'⟩ := h'
    obtain ⟨e1, e2⟩ := stp_one t h1 h1'
    subst e1; subst e2
    obtain ⟨hm, F, tm⟩ := stp_ok t hl h1
    rcases h2 with ⟨a1, a2⟩ | ⟨a1, a2⟩ <;> rcases h2' with ⟨b1, b2⟩ | ⟨b1, b2⟩ <;> try omega
    · rw [a2, b2]
    · exact ih hm tm a2 b2
theorem sts_ok {w : Int} : ∀ {n : Nat} {l l1 : List Int} {f : Nat}, l.length ≤ 500 → tL f 0 l → sts w n l l1 → l1.length ≤ 500 ∧ ∃ F, tL F 0 l1 := by
  intro n
  induction n with
  | zero => intro l l1 f hl t h; rw [show l1 = l from h]; exact ⟨hl, f, t⟩
  | succ n ih =>
    intro l l1 f hl t h
    obtain ⟨r, m, h1, h2⟩ := h
    obtain ⟨hm, F, tm⟩ := stp_ok t hl h1
    rcases h2 with ⟨a1, a2⟩ | ⟨a1, a2⟩
    · rw [a2]; exact ⟨hm, F, tm⟩
    · exact ih hm tm a2
