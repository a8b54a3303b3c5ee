/-! what read comes to: as a relation of one answer -/
theorem cnt_z {g : Int → Int} {sz : Int} : ∀ (f : Nat) (p n : Int), p + (f : Int) = sz → (cnt g sz f p n = n ∧ ∀ q, p ≤ q → q < sz → rdx g q ≠ 1) ∨ (n < cnt g sz f p n ∧ cnt g sz f p n ≤ n + (f : Int) ∧ ∃ q, p ≤ q ∧ q < sz ∧ rdx g q = 1) := by
  intro f
  induction f with
  | zero =>
    intro p n h
    exact Or.inl ⟨rfl, fun q q0 q1 => by omega⟩
  | succ f ih =>
    intro p n h
    rw [cnt_s (r := rdx g p) (by omega) rfl]
    rcases rdx_in g p with c | c
    · rw [c, Int.add_zero]
      rcases ih (p + 1) n (by omega) with ⟨h1, h2⟩ | ⟨h1, h2, q, q0, q1, q2⟩
      · refine Or.inl ⟨h1, fun q q0 q1 => ?_⟩
        by_cases hq : q = p
        · rw [hq]; omega
        · exact h2 q (by omega) q1
      · exact Or.inr ⟨h1, by omega, q, by omega, q1, q2⟩
    · rw [c]
      rcases ih (p + 1) (n + 1) (by omega) with ⟨h1, h2⟩ | ⟨h1, h2, _⟩
      · exact Or.inr ⟨by omega, by omega, p, by omega, by omega, c⟩
      · exact Or.inr ⟨by omega, by omega, p, by omega, by omega, c⟩
theorem cnd_0 {g : Int → Int} {p : Int} : cnd g 0 p ↔ rdx g p = 1 := by
  constructor
  · intro h
    rcases h with ⟨h, _⟩ | ⟨_, h, _⟩
    · omega
    · exact h
  · intro h
    exact Or.inr ⟨by omega, h, fun z => absurd z (by omega), fun z => absurd z (by omega)⟩
/-- steps of way w, n at most: e the last answer (1 where none was refused) -/
def sto (w : Int) : Nat → List Int → Int → List Int → Prop
  | 0, l, e, l' => e = 1 ∧ l' = l
  | n + 1, l, e, l' => ∃ r l1, stp w l r l1 ∧ ((r ≠ 1 ∧ e = r ∧ l' = l1) ∨ (r = 1 ∧ sto w n l1 e l'))
theorem sto_one {w : Int} : ∀ {n : Nat} {e e' : Int} {l l1 l2 : List Int} {f : Nat}, l.length ≤ 500 → tL f 0 l → sto w n l e l1 → sto w n l e' l2 → e' = e ∧ l2 = l1 := by
  intro n
  induction n with
  | zero =>
    intro e e' l l1 l2 f _ _ h h'
    obtain ⟨a1, a2⟩ := h
    obtain ⟨b1, b2⟩ := h'
    exact ⟨by omega, by rw [a2, b2]⟩
  | succ n ih =>
    intro e e' l l1 l2 f hl t h h'
    obtain ⟨r, m, h1, h2⟩ := h
    obtain ⟨r', m', h1', h2'⟩ := h'
    obtain ⟨e1, e2⟩ := stp_one t h1 h1'
    subst e1; subst e2
    obtain ⟨hm, F, tm⟩ := stp_ok t hl h1
    rcases h2 with ⟨a1, a2, a3⟩ | ⟨a1, a2⟩ <;> rcases h2' with ⟨b1, b2, b3⟩ | ⟨b1, b2⟩ <;> try omega
    · exact ⟨by omega, by rw [a3, b3]⟩
    · exact ih hm tm a2 b2
theorem sto_ok {w : Int} : ∀ {n : Nat} {e : Int} {l l1 : List Int} {f : Nat}, l.length ≤ 500 → tL f 0 l → sto w n l e l1 → l1.length ≤ 500 ∧ ∃ F, tL F 0 l1 := by
  intro n
  induction n with
  | zero => intro e l l1 f hl t h; rw [show l1 = l from h.2]; exact ⟨hl, f, t⟩
  | succ n ih =>
    intro e l l1 f hl t h
    obtain ⟨r, m, h1, h2⟩ := h
    obtain ⟨hm, F, tm⟩ := stp_ok t hl h1
    rcases h2 with ⟨a1, _, a2⟩ | ⟨a1, a2⟩
    · rw [a2]; exact ⟨hm, F, tm⟩
    · exact ih hm tm a2
/-- no step is left, and the number; or one is left -/
def rdN (l : List Int) (r : Int) : Prop := ∃ g : Int → Int, rg g l.length 0 = l ∧ (((∃ p, 0 ≤ p ∧ p < (l.length : Int) ∧ rdx g p = 1) ∧ r = -2) ∨ ((∀ p, 0 ≤ p → p < (l.length : Int) → rdx g p ≠ 1) ∧ nbR g l.length r))
theorem rdN_one {l : List Int} {f : Nat} {r r' : Int} (t : tL f 0 l) (h : rdN l r) (h' : rdN l r') : r = r' := by
  obtain ⟨g, hg, h⟩ := h
  obtain ⟨g', hg', h'⟩ := h'
  have tg := tL_tm0 t hg
  have he := rg_same hg hg'
  have hr : ∀ p, 0 ≤ p → p < (l.length : Int) → rdx g' p = rdx g p := fun p p0 p1 => by
    obtain ⟨f2, k2, e2, t2, h2, _⟩ := tm_sub tg p p0 p1
    exact rdx_eq t2 (fun j z y => he j (by omega) (by omega))
  rcases h with ⟨⟨p, p0, p1, p2⟩, e⟩ | ⟨h1, h2⟩
  · rcases h' with ⟨_, e'⟩ | ⟨h1', _⟩
    · omega
    · exact absurd ((hr p p0 p1).trans p2) (h1' p p0 p1)
  · rcases h' with ⟨⟨p, p0, p1, p2⟩, _⟩ | ⟨_, h2'⟩
    · exact absurd ((hr p p0 p1).symm.trans p2) (h1 p p0 p1)
    · exact nbR_one tg he h2 h2'
/-- what is told when the last answer is e, the code l -/
def rdE (e : Int) (l : List Int) (r : Int) : Prop := (e = -3 ∧ r = -3) ∨ (e ≠ -3 ∧ rdN l r)
def rdR (n : Nat) (l : List Int) (r : Int) : Prop := ∃ e l', sto 0 n l e l' ∧ rdE e l' r
theorem rdR_one {n : Nat} {l : List Int} {f : Nat} {r r' : Int} (hl : l.length ≤ 500) (t : tL f 0 l) (h : rdR n l r) (h' : rdR n l r') : r = r' := by
  obtain ⟨e, l1, h1, h2⟩ := h
  obtain ⟨e', l2, h1', h2'⟩ := h'
  obtain ⟨e1, e2⟩ := sto_one hl t h1 h1'
  subst e1; subst e2
  obtain ⟨_, F, t1⟩ := sto_ok hl t h1
  rcases h2 with ⟨a1, a2⟩ | ⟨a1, a2⟩ <;> rcases h2' with ⟨b1, b2⟩ | ⟨b1, b2⟩ <;> try omega
  exact rdN_one t1 a2 b2
/-- within the loop: o the last answer -/
def rdq (n : Nat) (o : Int) (l : List Int) (r : Int) : Prop := (o = 1 ∧ rdR n l r) ∨ (o ≠ 1 ∧ rdE o l r)
theorem rdq_s {n : Nat} {l l' : List Int} {o r r9 : Int} (ho : o = 1) (hst : stp 0 l r l') (h : rdq n r l' r9) : rdq (n + 1) o l r9 := by
  refine Or.inl ⟨ho, ?_⟩
  rcases h with ⟨h1, e, l2, h2, h3⟩ | ⟨h1, h2⟩
  · exact ⟨e, l2, ⟨r, l', hst, Or.inr ⟨h1, h2⟩⟩, h3⟩
  · exact ⟨r, l', ⟨r, l', hst, Or.inl ⟨h1, rfl, rfl⟩⟩, h2⟩
theorem rdq_3 {n : Nat} {l : List Int} {o : Int} (ho : o = -3) : rdq n o l (-3) := Or.inr ⟨by omega, Or.inl ⟨ho, rfl⟩⟩
theorem rdq_n {n : Nat} {l : List Int} {o r : Int} (h1 : o = 1 → n = 0) (ho : o ≠ -3) (h : rdN l r) : rdq n o l r := by
  by_cases c : o = 1
  · have := h1 c
    subst this
    exact Or.inl ⟨c, o, l, ⟨c, rfl⟩, Or.inr ⟨ho, h⟩⟩
  · exact Or.inr ⟨c, Or.inr ⟨ho, h⟩⟩
