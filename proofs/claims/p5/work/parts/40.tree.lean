/-! THE THEORY OF CODES: tm g f k p e: from p to e stands one term (at most f deep) whose variables are bound by k lambdas around and those within; dp g D f k p e: the same shape, and D says how many lambdas are around each place (k around the whole) -/
def tm (g : Int → Int) : Nat → Int → Int → Int → Prop
  | 0, _, _, _ => False
  | f + 1, k, p, e => (g p = 0 ∧ ∃ m, tm g f k (p + 1) m ∧ tm g f k m e) ∨ (g p = 1 ∧ tm g f (k + 1) (p + 1) e) ∨ (2 ≤ g p ∧ (g p ≤ 6 ∨ 10 ≤ g p ∧ g p < 10 + k) ∧ e = p + 1)
def dp (g D : Int → Int) : Nat → Int → Int → Int → Prop
  | 0, _, _, _ => False
  | f + 1, k, p, e => D p = k ∧ ((g p = 0 ∧ ∃ m, dp g D f k (p + 1) m ∧ dp g D f k m e) ∨ (g p = 1 ∧ dp g D f (k + 1) (p + 1) e) ∨ (2 ≤ g p ∧ e = p + 1))
theorem tm_lt {g : Int → Int} : ∀ {f : Nat} {k p e : Int}, tm g f k p e → p < e := by
  intro f
  induction f with
  | zero => intro k p e h; exact h.elim
  | succ f ih =>
    intro k p e h
    rcases h with ⟨_, m, h1, h2⟩ | ⟨_, h1⟩ | ⟨_, _, h1⟩
    · have := ih h1; have := ih h2; omega
    · have := ih h1; omega
    · omega
theorem dp_lt {g D : Int → Int} : ∀ {f : Nat} {k p e : Int}, dp g D f k p e → p < e := by
  intro f
  induction f with
  | zero => intro k p e h; exact h.elim
  | succ f ih =>
    intro k p e h
    rcases h with ⟨_, ⟨_, m, h1, h2⟩ | ⟨_, h1⟩ | ⟨_, h1⟩⟩
    · have := ih h1; have := ih h2; omega
    · have := ih h1; omega
    · omega
theorem tm_up {g : Int → Int} : ∀ {f : Nat} {k p e : Int}, tm g f k p e → tm g (f + 1) k p e := by
  intro f
  induction f with
  | zero => intro k p e h; exact h.elim
  | succ f ih =>
    intro k p e h
    rcases h with ⟨h0, m, h1, h2⟩ | ⟨h0, h1⟩ | h0
    · exact Or.inl ⟨h0, m, ih h1, ih h2⟩
    · exact Or.inr (Or.inl ⟨h0, ih h1⟩)
    · exact Or.inr (Or.inr h0)
theorem tm_le {g : Int → Int} {f f' : Nat} {k p e : Int} (h : f ≤ f') (t : tm g f k p e) : tm g f' k p e := by
  induction h with
  | refl => exact t
  | step _ ih => exact tm_up ih
theorem tm_deep {g : Int → Int} : ∀ {f : Nat} {k k' p e : Int}, k ≤ k' → tm g f k p e → tm g f k' p e := by
  intro f
  induction f with
  | zero => intro k k' p e _ h; exact h.elim
  | succ f ih =>
    intro k k' p e hk h
    rcases h with ⟨h0, m, h1, h2⟩ | ⟨h0, h1⟩ | ⟨h0, h1, h2⟩
    · exact Or.inl ⟨h0, m, ih hk h1, ih hk h2⟩
    · exact Or.inr (Or.inl ⟨h0, ih (by omega) h1⟩)
    · exact Or.inr (Or.inr ⟨h0, by omega, h2⟩)
theorem tm_small {g : Int → Int} : ∀ {f : Nat} {k p e : Int}, tm g f k p e → ∀ N : Nat, (e - p).toNat ≤ N → tm g N k p e := by
  intro f
  induction f with
  | zero => intro k p e h; exact h.elim
  | succ f ih =>
    intro k p e h N hN
    have hp := tm_lt h
    obtain ⟨N, rfl⟩ : ∃ n, N = n + 1 := ⟨N - 1, by omega⟩
    rcases h with ⟨h0, m, h1, h2⟩ | ⟨h0, h1⟩ | h0
    · have := tm_lt h1; have := tm_lt h2
      exact Or.inl ⟨h0, m, ih h1 N (by omega), ih h2 N (by omega)⟩
    · exact Or.inr (Or.inl ⟨h0, ih h1 N (by omega)⟩)
    · exact Or.inr (Or.inr h0)
theorem tm_congr {g g' : Int → Int} {o : Int} : ∀ {f : Nat} {k p e : Int}, (∀ j, p ≤ j → j < e → g' (j + o) = g j) → tm g f k p e → tm g' f k (p + o) (e + o) := by
  intro f
  induction f with
  | zero => intro k p e _ h; exact h.elim
  | succ f ih =>
    intro k p e hg h
    have hp := hg p (by omega) (tm_lt h)
    rcases h with ⟨h0, m, h1, h2⟩ | ⟨h0, h1⟩ | ⟨h0, h1, h2⟩
    · have := tm_lt h1; have := tm_lt h2
      refine Or.inl ⟨by omega, m + o, ?_, ih (fun j z y => hg j (by omega) (by omega)) h2⟩
      have := ih (fun j z y => hg j (by omega) (by omega)) h1
      rw [show p + o + 1 = p + 1 + o by omega]; exact this
    · refine Or.inr (Or.inl ⟨by omega, ?_⟩)
      have := ih (fun j z y => hg j (by omega) (by omega)) h1
      rw [show p + o + 1 = p + 1 + o by omega]; exact this
    · exact Or.inr (Or.inr ⟨by omega, by omega, by omega⟩)
theorem tm_in {g : Int → Int} : ∀ {f : Nat} {k p e : Int}, 0 ≤ k → tm g f k p e → ∀ j, p ≤ j → j < e → 0 ≤ g j ∧ g j < 10 + k + f := by
  intro f
  induction f with
  | zero => intro k p e _ h; exact h.elim
  | succ f ih =>
    intro k p e hk h j h1 h2
    rcases h with ⟨h0, m, z1, z2⟩ | ⟨h0, z1⟩ | ⟨h0, z1, z2⟩
    · by_cases hj : j = p
      · subst hj
        omega
      · by_cases hm : j < m
        · have := ih hk z1 j (by omega) hm; omega
        · have := ih hk z2 j (by omega) h2; omega
    · by_cases hj : j = p
      · subst hj
        omega
      · have := ih (by omega) z1 j (by omega) h2; omega
    · have : j = p := by omega
      subst this
      omega
theorem dp_congr {g D D' : Int → Int} : ∀ {f : Nat} {k p e : Int}, (∀ j, p ≤ j → j < e → D' j = D j) → dp g D f k p e → dp g D' f k p e := by
  intro f
  induction f with
  | zero => intro k p e _ h; exact h.elim
  | succ f ih =>
    intro k p e hg h
    have hp := hg p (by omega) (dp_lt h)
    rcases h with ⟨hd, ⟨h0, m, h1, h2⟩ | ⟨h0, h1⟩ | ⟨h0, h1⟩⟩
    · have := dp_lt h1; have := dp_lt h2
      exact ⟨by omega, Or.inl ⟨by omega, m, ih (fun j z y => hg j (by omega) (by omega)) h1, ih (fun j z y => hg j (by omega) (by omega)) h2⟩⟩
    · exact ⟨by omega, Or.inr (Or.inl ⟨by omega, ih (fun j z y => hg j (by omega) (by omega)) h1⟩)⟩
    · exact ⟨by omega, Or.inr (Or.inr ⟨by omega, by omega⟩)⟩
theorem tm_sc {g : Int → Int} : ∀ {f : Nat} {k p e : Int}, tm g f k p e → ∀ (N : Nat) (need : Int), 0 < need → (e - p).toNat ≤ N → sc g N need p = sc g (N - (e - p).toNat) (need - 1) e := by
  intro f
  induction f with
  | zero => intro k p e h; exact h.elim
  | succ f ih =>
    intro k p e h N need hn hN
    have hp := tm_lt h
    obtain ⟨N, rfl⟩ : ∃ n, N = n + 1 := ⟨N - 1, by omega⟩
    have st : sc g (N + 1) need p = sc g N (need + dlt (g p)) (p + 1) := by
      show (if need ≤ 0 then some p else sc g N (need + dlt (g p)) (p + 1)) = _
      rw [if_neg (by omega)]
    rw [st]
    rcases h with ⟨h0, m, h1, h2⟩ | ⟨h0, h1⟩ | ⟨h0, h1, h2⟩
    · have := tm_lt h1; have := tm_lt h2
      rw [dlt_0 h0, ih h1 N (need + 1) (by omega) (by omega), ih h2 _ _ (by omega) (by omega)]
      rw [show N - (m - (p + 1)).toNat - (e - m).toNat = N + 1 - (e - p).toNat by omega, show need + 1 - 1 - 1 = need - 1 by omega]
    · have := tm_lt h1
      rw [dlt_1 h0, ih h1 N (need + 0) (by omega) (by omega)]
      rw [show N - (e - (p + 1)).toNat = N + 1 - (e - p).toNat by omega, show need + 0 - 1 = need - 1 by omega]
    · rw [dlt_2 (by omega) (by omega), h2]
      rw [show N + 1 - (p + 1 - p).toNat = N by omega, show need + -1 = need - 1 by omega]
theorem tm_end {g : Int → Int} {f : Nat} {k p e : Int} (h : tm g f k p e) {N : Nat} (hN : (e - p).toNat ≤ N) : sc g N 1 p = some e := by
  rw [tm_sc h N 1 (by omega) hN]
  cases N - (e - p).toNat with
  | zero => rfl
  | succ n => rfl
theorem tm_one {g : Int → Int} {f f' : Nat} {k k' p e e' : Int} (h : tm g f k p e) (h' : tm g f' k' p e') : e = e' := by
  have h1 := tm_end h (Nat.le_max_left _ ((e' - p).toNat))
  have h2 := tm_end h' (Nat.le_max_right ((e - p).toNat) _)
  exact Option.some.inj (h1.symm.trans h2)
theorem tm_dpr {g : Int → Int} : ∀ {f : Nat} {k p e : Int}, tm g f k p e → ∀ (N : Nat) (w : Int) (P D : Int → Int), 0 < w → (e - p).toNat ≤ N → ∃ P' D', dpr g N w p P D = dpr g (N - (e - p).toNat) (w - 1) e P' D' ∧ (∀ j, j < w - 1 → P' j = P j) ∧ (∀ j, j < p ∨ e ≤ j → D' j = D j) ∧ dp g D' f (P (w - 1)) p e := by
  intro f
  induction f with
  | zero => intro k p e h; exact h.elim
  | succ f ih =>
    intro k p e h N w P D hw hN
    have hp := tm_lt h
    obtain ⟨N, rfl⟩ : ∃ n, N = n + 1 := ⟨N - 1, by omega⟩
    rcases h with ⟨h0, m, h1, h2⟩ | ⟨h0, h1⟩ | ⟨h0, h1, h2⟩
    · have l1 := tm_lt h1; have l2 := tm_lt h2
      rw [dpr_0 hw h0]
      obtain ⟨P1, D1, e1, p1, d1, s1⟩ := ih h1 N (w + -1 + 2) (updI (updI P (w + -1) (P (w + -1))) (w + -1 + 1) (P (w + -1))) (updI D p (P (w + -1))) (by omega) (by omega)
      obtain ⟨P2, D2, e2, p2, d2, s2⟩ := ih h2 (N - (m - (p + 1)).toNat) (w + -1 + 2 - 1) P1 D1 (by omega) (by omega)
      refine ⟨P2, D2, ?_, ?_, ?_, ?_, ?_⟩
      · rw [e1, e2, show N - (m - (p + 1)).toNat - (e - m).toNat = N + 1 - (e - p).toNat by omega, show w + -1 + 2 - 1 - 1 = w - 1 by omega]
      · intro j hj
        rw [p2 j (by omega), p1 j (by omega), updI_n _ _ (by omega), updI_n _ _ (by omega)]
      · intro j hj
        rw [d2 j (by omega), d1 j (by omega), updI_n _ _ (by omega)]
      · rw [d2 p (by omega), d1 p (by omega), updI_s, show w + -1 = w - 1 by omega]
      · refine Or.inl ⟨h0, m, ?_, ?_⟩
        · refine dp_congr (D := D1) (fun j z y => d2 j (by omega)) ?_
          rw [show w + -1 + 2 - 1 = w + -1 + 1 by omega, updI_s] at s1
          rw [show w - 1 = w + -1 by omega]; exact s1
        · rw [p1 _ (by omega), show w + -1 + 2 - 1 - 1 = w + -1 by omega, updI_n _ _ (by omega), updI_s] at s2
          rw [show w - 1 = w + -1 by omega]; exact s2
    · have l1 := tm_lt h1
      rw [dpr_1 hw h0]
      obtain ⟨P1, D1, e1, p1, d1, s1⟩ := ih h1 N (w + -1 + 1) (updI P (w + -1) (P (w + -1) + 1)) (updI D p (P (w + -1))) (by omega) (by omega)
      refine ⟨P1, D1, ?_, ?_, ?_, ?_, ?_⟩
      · rw [e1, show N - (e - (p + 1)).toNat = N + 1 - (e - p).toNat by omega, show w + -1 + 1 - 1 = w - 1 by omega]
      · intro j hj
        rw [p1 j (by omega), updI_n _ _ (by omega)]
      · intro j hj
        rw [d1 j (by omega), updI_n _ _ (by omega)]
      · rw [d1 p (by omega), updI_s, show w + -1 = w - 1 by omega]
      · refine Or.inr (Or.inl ⟨h0, ?_⟩)
        rw [show w + -1 + 1 - 1 = w + -1 by omega, updI_s] at s1
        rw [show w - 1 = w + -1 by omega]; exact s1
    · rw [dpr_2 hw (by omega) (by omega), h2]
      refine ⟨P, updI D p (P (w + -1)), ?_, fun _ _ => rfl, ?_, ?_, ?_⟩
      · rw [show N + 1 - (p + 1 - p).toNat = N by omega, show w + -1 = w - 1 by omega]
      · intro j hj
        rw [updI_n _ _ (by omega)]
      · rw [updI_s, show w + -1 = w - 1 by omega]
      · exact Or.inr (Or.inr ⟨h0, rfl⟩)
