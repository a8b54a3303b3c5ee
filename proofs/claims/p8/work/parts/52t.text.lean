/-! what a code is told as: pure -/
def nmC (d : Int) : List Int := if 25 < d then [97 + (d - 26) / 26, 97 + (d - 26) % 26] else [97 + d]
def txL (c : Int) : Int := if c = 2 then 83 else if c = 3 then 75 else if c = 4 then 73 else if c = 5 then 70 else 88
def txN (c k : Int) : List Int := if c = 1 then [92] ++ nmC k ++ [46] else if 9 < c then nmC (k - 1 - (c - 10)) else if c = 0 then [] else [txL c]
def wr (b : Bool) (l : List Int) : List Int := if b = true then [40] ++ l ++ [41] else l
/-- l the text of the term from p to e, k lambdas around it -/
def txt (g : Int → Int) : Nat → Int → Int → Int → List Int → Prop
  | 0, _, _, _, _ => False
  | f + 1, k, p, e, l => (g p = 0 ∧ ∃ m l1 l2, txt g f k (p + 1) m l1 ∧ txt g f k m e l2 ∧ l = wr (decide (g (p + 1) = 1)) l1 ++ [32] ++ wr (decide (g m < 2)) l2) ∨ (g p = 1 ∧ ∃ l1, txt g f (k + 1) (p + 1) e l1 ∧ l = txN 1 k ++ l1) ∨ (2 ≤ g p ∧ (g p ≤ 6 ∨ 10 ≤ g p ∧ g p < 10 + k) ∧ e = p + 1 ∧ l = txN (g p) k)
theorem txt_lt {g : Int → Int} : ∀ {f : Nat} {k p e : Int} {l : List Int}, txt g f k p e l → p < e := by
  intro f
  induction f with
  | zero => intro k p e l h; exact h.elim
  | succ f ih =>
    intro k p e l h
    rcases h with ⟨_, m, l1, l2, h1, h2, _⟩ | ⟨_, l1, h1, _⟩ | ⟨_, _, h1, _⟩
    · have := ih h1; have := ih h2; omega
    · have := ih h1; omega
    · omega
theorem txt_ex {g : Int → Int} : ∀ {f : Nat} {k p e : Int}, tm g f k p e → ∃ l, txt g f k p e l := by
  intro f
  induction f with
  | zero => intro k p e h; exact h.elim
  | succ f ih =>
    intro k p e h
    rcases h with ⟨h0, m, h1, h2⟩ | ⟨h0, h1⟩ | ⟨h0, h1, h2⟩
    · obtain ⟨l1, x1⟩ := ih h1
      obtain ⟨l2, x2⟩ := ih h2
      exact ⟨_, Or.inl ⟨h0, m, l1, l2, x1, x2, rfl⟩⟩
    · obtain ⟨l1, x1⟩ := ih h1
      exact ⟨_, Or.inr (Or.inl ⟨h0, l1, x1, rfl⟩)⟩
    · exact ⟨_, Or.inr (Or.inr ⟨h0, h1, h2, rfl⟩)⟩
theorem txt_cg {g g' : Int → Int} : ∀ {f : Nat} {k p e : Int} {l : List Int}, (∀ j, p ≤ j → j < e → g' j = g j) → txt g f k p e l → txt g' f k p e l := by
  intro f
  induction f with
  | zero => intro k p e l _ h; exact h.elim
  | succ f ih =>
    intro k p e l hg h
    have hp := hg p (by omega) (txt_lt h)
    rcases h with ⟨h0, m, l1, l2, h1, h2, h3⟩ | ⟨h0, l1, h1, h2⟩ | ⟨h0, h1, h2, h3⟩
    · have q1 := txt_lt h1
      have q2 := txt_lt h2
      refine Or.inl ⟨by omega, m, l1, l2, ih (fun j z y => hg j (by omega) (by omega)) h1, ih (fun j z y => hg j (by omega) (by omega)) h2, ?_⟩
      rw [hg (p + 1) (by omega) (by omega), hg m (by omega) (by omega)]
      exact h3
    · exact Or.inr (Or.inl ⟨by omega, l1, ih (fun j z y => hg j (by omega) (by omega)) h1, h2⟩)
    · exact Or.inr (Or.inr ⟨by omega, by omega, h2, by rw [hp]; exact h3⟩)
theorem nmC_len (d : Int) : 1 ≤ (nmC d).length ∧ (nmC d).length ≤ 2 := by
  unfold nmC
  split <;> simp
theorem wr_len (b : Bool) (l : List Int) : (wr b l).length ≤ l.length + 2 := by
  unfold wr
  split
  · simp only [List.length_append, List.length_cons, List.length_nil]; omega
  · omega
theorem txN_len (c k : Int) : (txN c k).length ≤ 4 ∧ (c ≠ 1 → (txN c k).length ≤ 2) := by
  have h1 := nmC_len k
  have h2 := nmC_len (k - 1 - (c - 10))
  unfold txN
  by_cases c1 : c = 1
  · rw [if_pos c1]
    refine ⟨?_, fun z => absurd c1 z⟩
    simp only [List.length_append, List.length_cons, List.length_nil]
    omega
  · rw [if_neg c1]
    by_cases c2 : 9 < c
    · rw [if_pos c2]
      exact ⟨by omega, fun _ => h2.2⟩
    · rw [if_neg c2]
      split
      · simp
      · simp
theorem txt_len {g : Int → Int} : ∀ {f : Nat} {k p e : Int} {l : List Int}, txt g f k p e l → (l.length : Int) ≤ 6 * (e - p) - 4 := by
  intro f
  induction f with
  | zero => intro k p e l h; exact h.elim
  | succ f ih =>
    intro k p e l h
    rcases h with ⟨_, m, l1, l2, h1, h2, h3⟩ | ⟨_, l1, h1, h2⟩ | ⟨h0, _, h1, h2⟩
    · have a1 := ih h1
      have a2 := ih h2
      have b1 := wr_len (decide (g (p + 1) = 1)) l1
      have b2 := wr_len (decide (g m < 2)) l2
      rw [h3]
      simp only [List.length_append, List.length_cons, List.length_nil]
      omega
    · have a1 := ih h1
      have b1 := (txN_len 1 k).1
      rw [h2]
      simp only [List.length_append]
      omega
    · have b1 := (txN_len (g p) k).2 (by omega)
      rw [h2]
      omega
/-! the rows blank, opened, closed -/
abbrev RW3 : Type := (Int → Int) × (Int → Int) × (Int → Int)
def rw3 (g : Int → Int) (p m e : Int) (X : RW3) : RW3 :=
  (updI X.1 m 1,
   (if g m < 2 then updI (if g (p + 1) = 1 then updI X.2.1 (p + 1) 1 else X.2.1) m 1 else (if g (p + 1) = 1 then updI X.2.1 (p + 1) 1 else X.2.1)),
   (if g m < 2 then updI (if g (p + 1) = 1 then updI X.2.2 m (X.2.2 m + 1) else X.2.2) e ((if g (p + 1) = 1 then updI X.2.2 m (X.2.2 m + 1) else X.2.2) e + 1) else (if g (p + 1) = 1 then updI X.2.2 m (X.2.2 m + 1) else X.2.2)))
def st3 (g : Int → Int) (p : Int) (X Y : RW3) : Prop := (g p ≠ 0 ∧ Y = X) ∨ (g p = 0 ∧ ∃ f k m e, tm g f k (p + 1) m ∧ tm g f k m e ∧ Y = rw3 g p m e X)
def al3 (g : Int → Int) : Nat → Int → RW3 → RW3 → Prop
  | 0, _, X, Y => Y = X
  | n + 1, p, X, Y => ∃ Z, st3 g p X Z ∧ al3 g n (p + 1) Z Y
theorem al3_app {g : Int → Int} : ∀ {a b : Nat} {p : Int} {X Y : RW3}, al3 g (a + b) p X Y → ∃ Z, al3 g a p X Z ∧ al3 g b (p + a) Z Y := by
  intro a
  induction a with
  | zero => intro b p X Y h; exact ⟨X, rfl, by rw [show (0 : Nat) + b = b by omega] at h; rw [show p + ((0 : Nat) : Int) = p by omega]; exact h⟩
  | succ a ih =>
    intro b p X Y h
    rw [show a + 1 + b = (a + b) + 1 by omega] at h
    obtain ⟨Z, h1, h2⟩ := h
    obtain ⟨W, h3, h4⟩ := ih h2
    refine ⟨W, ⟨Z, h1, h3⟩, ?_⟩
    rw [show p + ((a + 1 : Nat) : Int) = p + 1 + (a : Int) by omega]
    exact h4
theorem al3_snoc {g : Int → Int} : ∀ {n : Nat} {p : Int} {X Y Z : RW3}, al3 g n p X Y → st3 g (p + n) Y Z → al3 g (n + 1) p X Z := by
  intro n
  induction n with
  | zero =>
    intro p X Y Z h h'
    have h : Y = X := h
    subst h
    rw [show p + ((0 : Nat) : Int) = p by omega] at h'
    exact ⟨Z, h', rfl⟩
  | succ n ih =>
    intro p X Y Z h h'
    obtain ⟨W, h1, h2⟩ := h
    refine ⟨W, h1, ih h2 ?_⟩
    rw [show p + 1 + (n : Int) = p + ((n + 1 : Nat) : Int) by omega]
    exact h'
/-- the same by the term's shape -/
def AR3 (g : Int → Int) : Nat → Int → Int → RW3 → RW3 → Prop
  | 0, _, _, _, _ => False
  | f + 1, p, e, X, Y => (g p = 0 ∧ ∃ m Z, p + 1 < m ∧ m < e ∧ AR3 g f (p + 1) m (rw3 g p m e X) Z ∧ AR3 g f m e Z Y) ∨ (g p = 1 ∧ p + 1 < e ∧ AR3 g f (p + 1) e X Y) ∨ (2 ≤ g p ∧ e = p + 1 ∧ Y = X)
theorem al3_AR {g : Int → Int} : ∀ {f : Nat} {k p e : Int} {X Y : RW3}, tm g f k p e → al3 g (e - p).toNat p X Y → AR3 g f p e X Y := by
  intro f
  induction f with
  | zero => intro k p e X Y h; exact h.elim
  | succ f ih =>
    intro k p e X Y t h
    have lt := tm_lt t
    rcases t with ⟨h0, m, t1, t2⟩ | ⟨h0, t1⟩ | ⟨h0, h1, h2⟩
    · have l1 := tm_lt t1
      have l2 := tm_lt t2
      rw [show (e - p).toNat = ((m - (p + 1)).toNat + (e - m).toNat) + 1 by omega] at h
      obtain ⟨Z, s1, s2⟩ := h
      obtain ⟨W, s3, s4⟩ := al3_app s2
      rw [show p + 1 + ((m - (p + 1)).toNat : Int) = m by omega] at s4
      rcases s1 with ⟨c, _⟩ | ⟨_, f', k', m', e', u1, u2, u3⟩
      · exact absurd h0 c
      · have e1 := tm_one t1 u1
        subst e1
        have e2 := tm_one t2 u2
        subst e2
        subst u3
        exact Or.inl ⟨h0, m, W, l1, l2, ih t1 s3, ih t2 s4⟩
    · have l1 := tm_lt t1
      rw [show (e - p).toNat = (e - (p + 1)).toNat + 1 by omega] at h
      obtain ⟨Z, s1, s2⟩ := h
      rcases s1 with ⟨_, c⟩ | ⟨c, _⟩
      · subst c
        exact Or.inr (Or.inl ⟨h0, l1, ih t1 s2⟩)
      · omega
    · rw [show (e - p).toNat = 0 + 1 by omega] at h
      obtain ⟨Z, s1, s2⟩ := h
      have s2 : Y = Z := s2
      rcases s1 with ⟨_, c⟩ | ⟨c, _⟩
      · subst c
        exact Or.inr (Or.inr ⟨h0, h2, s2⟩)
      · omega
/-- what stays as it is -/
theorem rw3_n {g : Int → Int} {p m e q : Int} {X : RW3} : (q ≠ m → (rw3 g p m e X).1 q = X.1 q) ∧ (q ≠ m → q ≠ p + 1 → (rw3 g p m e X).2.1 q = X.2.1 q) ∧ (q ≠ m → q ≠ e → (rw3 g p m e X).2.2 q = X.2.2 q) := by
  refine ⟨fun h => ?_, fun h h1 => ?_, fun h h1 => ?_⟩
  · show updI X.1 m 1 q = X.1 q
    exact updI_n _ _ h
  · show (if g m < 2 then updI (if g (p + 1) = 1 then updI X.2.1 (p + 1) 1 else X.2.1) m 1 else (if g (p + 1) = 1 then updI X.2.1 (p + 1) 1 else X.2.1)) q = _
    by_cases c1 : g m < 2
    · rw [if_pos c1, updI_n _ _ h]
      by_cases c2 : g (p + 1) = 1
      · rw [if_pos c2, updI_n _ _ h1]
      · rw [if_neg c2]
    · rw [if_neg c1]
      by_cases c2 : g (p + 1) = 1
      · rw [if_pos c2, updI_n _ _ h1]
      · rw [if_neg c2]
  · show (if g m < 2 then updI (if g (p + 1) = 1 then updI X.2.2 m (X.2.2 m + 1) else X.2.2) e ((if g (p + 1) = 1 then updI X.2.2 m (X.2.2 m + 1) else X.2.2) e + 1) else (if g (p + 1) = 1 then updI X.2.2 m (X.2.2 m + 1) else X.2.2)) q = _
    by_cases c1 : g m < 2
    · rw [if_pos c1, updI_n _ _ h1]
      by_cases c2 : g (p + 1) = 1
      · rw [if_pos c2, updI_n _ _ h]
      · rw [if_neg c2]
    · rw [if_neg c1]
      by_cases c2 : g (p + 1) = 1
      · rw [if_pos c2, updI_n _ _ h]
      · rw [if_neg c2]
theorem rw3_v {g : Int → Int} {p m e : Int} {X : RW3} (h1 : p + 1 < m) (h2 : m < e) : (rw3 g p m e X).1 m = 1 ∧ ((g m < 2 → (rw3 g p m e X).2.1 m = 1) ∧ (¬ g m < 2 → (rw3 g p m e X).2.1 m = X.2.1 m)) ∧ ((g (p + 1) = 1 → (rw3 g p m e X).2.1 (p + 1) = 1) ∧ (g (p + 1) ≠ 1 → (rw3 g p m e X).2.1 (p + 1) = X.2.1 (p + 1))) ∧ (rw3 g p m e X).2.2 m = X.2.2 m + (if g (p + 1) = 1 then 1 else 0) ∧ (rw3 g p m e X).2.2 e = X.2.2 e + (if g m < 2 then 1 else 0) := by
  unfold rw3
  dsimp only
  by_cases c1 : g m < 2
  · by_cases c2 : g (p + 1) = 1
    · simp only [if_pos c1, if_pos c2]
      refine ⟨updI_s _ _ _, ⟨fun _ => updI_s _ _ _, fun z => absurd c1 z⟩, ⟨fun _ => ?_, fun z => absurd c2 z⟩, ?_, ?_⟩
      · rw [updI_n _ _ (by omega), updI_s]
      · rw [updI_n _ _ (by omega), updI_s]
      · rw [updI_s, updI_n _ _ (by omega)]
    · simp only [if_pos c1, if_neg c2]
      refine ⟨updI_s _ _ _, ⟨fun _ => updI_s _ _ _, fun z => absurd c1 z⟩, ⟨fun z => absurd z c2, fun _ => ?_⟩, ?_, ?_⟩
      · rw [updI_n _ _ (by omega)]
      · rw [updI_n _ _ (by omega)] <;> omega
      · rw [updI_s]
  · by_cases c2 : g (p + 1) = 1
    · simp only [if_neg c1, if_pos c2]
      refine ⟨updI_s _ _ _, ⟨fun z => absurd z c1, fun _ => ?_⟩, ⟨fun _ => updI_s _ _ _, fun z => absurd c2 z⟩, ?_, ?_⟩
      · rw [updI_n _ _ (by omega)]
      · rw [updI_s]
      · rw [updI_n _ _ (by omega)] <;> omega
    · simp only [if_neg c1, if_neg c2]
      exact ⟨updI_s _ _ _, ⟨fun z => absurd z c1, fun _ => by first | rfl | trivial⟩, ⟨fun z => absurd z c2, fun _ => by first | rfl | trivial⟩, by omega, by omega⟩
theorem AR3_n {g : Int → Int} : ∀ {f : Nat} {p e : Int} {X Y : RW3}, AR3 g f p e X Y → p < e ∧ ∀ q, ((q ≤ p + 1 ∨ e ≤ q) → Y.1 q = X.1 q) ∧ ((q ≤ p ∨ e ≤ q) → Y.2.1 q = X.2.1 q) ∧ ((q ≤ p + 1 ∨ e < q) → Y.2.2 q = X.2.2 q) ∧ X.2.2 e ≤ Y.2.2 e := by
  intro f
  induction f with
  | zero => intro p e X Y h; exact h.elim
  | succ f ih =>
    intro p e X Y h
    rcases h with ⟨h0, m, Z, l1, l2, h1, h2⟩ | ⟨h0, l1, h1⟩ | ⟨h0, h1, h2⟩
    · obtain ⟨_, i1⟩ := ih h1
      obtain ⟨_, i2⟩ := ih h2
      refine ⟨by omega, fun q => ?_⟩
      obtain ⟨a1, a2, a3⟩ := rw3_n (g := g) (p := p) (m := m) (e := e) (q := q) (X := X)
      obtain ⟨b1, b2, b3, b4⟩ := i1 q
      obtain ⟨c1, c2, c3, c4⟩ := i2 q
      obtain ⟨v1, v2, v3, v4, v5⟩ := rw3_v (g := g) (X := X) l1 l2
      have b5 := (i1 e).2.2.1 (Or.inr (by omega))
      refine ⟨fun z => ?_, fun z => ?_, fun z => ?_, ?_⟩
      · rw [c1 (by omega), b1 (by omega), a1 (by omega)]
      · rw [c2 (by omega), b2 (by omega), a2 (by omega) (by omega)]
      · rw [c3 (by omega), b3 (by omega), a3 (by omega) (by omega)]
      · rw [b5, v5] at c4
        split at c4 <;> omega
    · obtain ⟨_, i1⟩ := ih h1
      refine ⟨by omega, fun q => ?_⟩
      obtain ⟨b1, b2, b3, b4⟩ := i1 q
      exact ⟨fun z => b1 (by omega), fun z => b2 (by omega), fun z => b3 (by omega), b4⟩
    · subst h2
      exact ⟨by omega, fun q => ⟨fun _ => rfl, fun _ => rfl, fun _ => rfl, Int.le_refl _⟩⟩
/-- what is said before place i -/
def gp3 (X : RW3) (i : Int) : List Int := List.replicate (X.2.2 i).toNat 41 ++ (if X.1 i ≠ 0 then [32] else []) ++ (if X.2.1 i ≠ 0 then [40] else [])
def sq3 (g D : Int → Int) (X : RW3) : Nat → Int → List Int
  | 0, _ => []
  | n + 1, p => gp3 X p ++ txN (g p) (D p) ++ sq3 g D X n (p + 1)
theorem sq3_app {g D : Int → Int} {X : RW3} : ∀ {a b : Nat} {p : Int}, sq3 g D X (a + b) p = sq3 g D X a p ++ sq3 g D X b (p + a) := by
  intro a
  induction a with
  | zero => intro b p; rw [show (0 : Nat) + b = b by omega, show p + ((0 : Nat) : Int) = p by omega]; rfl
  | succ a ih =>
    intro b p
    rw [show a + 1 + b = (a + b) + 1 by omega]
    show gp3 X p ++ txN (g p) (D p) ++ sq3 g D X (a + b) (p + 1) = gp3 X p ++ txN (g p) (D p) ++ sq3 g D X a (p + 1) ++ _
    rw [ih, show p + ((a + 1 : Nat) : Int) = p + 1 + (a : Int) by omega]
    simp only [List.append_assoc]
theorem rep_add {a b : Int} {v : Int} (h0 : 0 ≤ a) (h1 : 0 ≤ b) : List.replicate (a + b).toNat v = List.replicate a.toNat v ++ List.replicate b.toNat v := by
  rw [show (a + b).toNat = a.toNat + b.toNat by omega, List.replicate_append_replicate]
theorem rep_if {P : Prop} {h : Decidable P} {l : List Int} : (if P then [40] else []) ++ l ++ List.replicate ((if P then 1 else 0 : Int)).toNat 41 = wr (@decide P h) l := by
  unfold wr
  by_cases c : P
  · rw [if_pos c, if_pos c, if_pos (decide_eq_true c)]; rfl
  · rw [if_neg c, if_neg c, if_neg (by rw [decide_eq_false c]; decide)]
    show [] ++ l ++ [] = l
    rw [List.append_nil, List.nil_append]
theorem txt_tm {g : Int → Int} : ∀ {f : Nat} {k p e : Int} {l : List Int}, txt g f k p e l → tm g f k p e := by
  intro f
  induction f with
  | zero => intro k p e l h; exact h.elim
  | succ f ih =>
    intro k p e l h
    rcases h with ⟨h0, m, l1, l2, h1, h2, _⟩ | ⟨h0, l1, h1, _⟩ | ⟨h0, h1, h2, _⟩
    · exact Or.inl ⟨h0, m, ih h1, ih h2⟩
    · exact Or.inr (Or.inl ⟨h0, ih h1⟩)
    · exact Or.inr (Or.inr ⟨h0, h1, h2⟩)
theorem txt_ar {g : Int → Int} : ∀ {f : Nat} {k p e e' : Int} {l : List Int} {X Y : RW3}, txt g f k p e l → AR3 g f p e' X Y → e = e' := by
  intro f
  induction f with
  | zero => intro k p e e' l X Y h; exact h.elim
  | succ f ih =>
    intro k p e e' l X Y h r
    rcases h with ⟨h0, m, l1, l2, h1, h2, _⟩ | ⟨h0, l1, h1, _⟩ | ⟨h0, _, h1, _⟩
    · rcases r with ⟨_, m2, Z, l3, l4, r1, r2⟩ | ⟨c, _⟩ | ⟨c, _⟩ <;> try omega
      have e1 := ih h1 r1
      subst e1
      exact ih h2 r2
    · rcases r with ⟨c, _⟩ | ⟨_, _, r1⟩ | ⟨c, _⟩ <;> try omega
      exact ih h1 r1
    · rcases r with ⟨c, _⟩ | ⟨c, _⟩ | ⟨_, r1, _⟩ <;> try omega
theorem txt_dp {g D : Int → Int} : ∀ {f : Nat} {k k' p e e' : Int} {l : List Int}, txt g f k p e l → dp g D f k' p e' → e = e' := by
  intro f
  induction f with
  | zero => intro k k' p e e' l h; exact h.elim
  | succ f ih =>
    intro k k' p e e' l h d
    obtain ⟨_, d⟩ := d
    rcases h with ⟨h0, m, l1, l2, h1, h2, _⟩ | ⟨h0, l1, h1, _⟩ | ⟨h0, _, h1, _⟩
    · rcases d with ⟨_, m2, r1, r2⟩ | ⟨c, _⟩ | ⟨c, _⟩ <;> try omega
      have e1 := ih h1 r1
      subst e1
      exact ih h2 r2
    · rcases d with ⟨c, _⟩ | ⟨_, r1⟩ | ⟨c, _⟩ <;> try omega
      exact ih h1 r1
    · rcases d with ⟨c, _⟩ | ⟨c, _⟩ | ⟨_, r1⟩ <;> try omega
theorem txt_sq {g D : Int → Int} {W : RW3} : ∀ {f : Nat} {k p e : Int} {l : List Int} {X Y : RW3}, txt g f k p e l → dp g D f k p e → AR3 g f p e X Y → (∀ q, p < q → q < e → W.1 q = Y.1 q ∧ W.2.1 q = Y.2.1 q ∧ W.2.2 q = Y.2.2 q) → (∀ q, p < q → q < e → X.1 q = 0 ∧ X.2.1 q = 0 ∧ X.2.2 q = 0) → sq3 g D W (e - p).toNat p ++ List.replicate (Y.2.2 e - X.2.2 e).toNat 41 = gp3 W p ++ l := by
  intro f
  induction f with
  | zero => intro k p e l X Y h; exact h.elim
  | succ f ih =>
    intro k p e l X Y h d r hW hX
    rcases h with ⟨h0, m, l1, l2, h1, h2, h3⟩ | ⟨h0, l1, h1, h2⟩ | ⟨h0, hb, h1, h2⟩
    · obtain ⟨dk, d⟩ := d
      rcases d with ⟨_, m1, d1, d2⟩ | ⟨c, _⟩ | ⟨c, _⟩ <;> try omega
      rcases r with ⟨_, m2, Z, l3, l4, r1, r2⟩ | ⟨c, _⟩ | ⟨c, _⟩ <;> try omega
      have e1 := txt_dp h1 d1
      subst e1
      have e2 := txt_ar h1 r1
      subst e2
      obtain ⟨n1, i1⟩ := AR3_n r1
      obtain ⟨n2, i2⟩ := AR3_n r2
      obtain ⟨v1, v2, v3, v4, v5⟩ := rw3_v (g := g) (X := X) l3 l4
      have xm := hX m (by omega) (by omega)
      have xp := hX (p + 1) (by omega) (by omega)
      have q1 := ih h1 d1 r1 (fun q z y => by
        obtain ⟨w1, w2, w3⟩ := hW q (by omega) (by omega)
        obtain ⟨c1, c2, c3, _⟩ := i2 q
        rw [w1, w2, w3, c1 (by omega), c2 (by omega), c3 (by omega)]
        exact ⟨rfl, rfl, rfl⟩) (fun q z y => by
        obtain ⟨a1, a2, a3⟩ := rw3_n (g := g) (p := p) (m := m) (e := e) (q := q) (X := X)
        rw [a1 (by omega), a2 (by omega) (by omega), a3 (by omega) (by omega)]
        exact hX q (by omega) (by omega))
      have q2 := ih h2 d2 r2 (fun q z y => hW q (by omega) y) (fun q z y => by
        obtain ⟨a1, a2, a3⟩ := rw3_n (g := g) (p := p) (m := m) (e := e) (q := q) (X := X)
        obtain ⟨c1, c2, c3, _⟩ := i1 q
        rw [c1 (by omega), c2 (by omega), c3 (by omega), a1 (by omega), a2 (by omega) (by omega), a3 (by omega) (by omega)]
        exact hX q (by omega) (by omega))
      obtain ⟨wp1, wp2, wp3⟩ := hW (p + 1) (by omega) (by omega)
      obtain ⟨wm1, wm2, wm3⟩ := hW m (by omega) (by omega)
      obtain ⟨cp1, cp2, cp3, _⟩ := i2 (p + 1)
      obtain ⟨bp1, bp2, bp3, _⟩ := i1 (p + 1)
      obtain ⟨cm1, cm2, cm3, _⟩ := i2 m
      obtain ⟨bm1, bm2, bm3, bm4⟩ := i1 m
      obtain ⟨ap1, ap2, ap3⟩ := rw3_n (g := g) (p := p) (m := m) (e := e) (q := p + 1) (X := X)
      have be3 := (i1 e).2.2.1 (Or.inr (by omega))
      have ce4 := (i2 e).2.2.2
      have gp1 : gp3 W (p + 1) = (if g (p + 1) = 1 then [40] else []) := by
        unfold gp3
        rw [wp3, cp3 (by omega), bp3 (by omega), ap3 (by omega) (by omega), xp.2.2, wp1, cp1 (by omega), bp1 (by omega), ap1 (by omega), xp.1, wp2, cp2 (by omega), bp2 (by omega)]
        by_cases c : g (p + 1) = 1
        · rw [v3.1 c, if_pos c]; rfl
        · rw [v3.2 c, xp.2.1, if_neg c]; rfl
      have gpm : gp3 W m = List.replicate ((Z.2.2 m - (rw3 g p m e X).2.2 m) + (if g (p + 1) = 1 then 1 else 0)).toNat 41 ++ [32] ++ (if g m < 2 then [40] else []) := by
        unfold gp3
        rw [wm3, cm3 (by omega), wm1, cm1 (by omega), bm1 (by omega), v1, wm2, cm2 (by omega), bm2 (by omega)]
        have e9 : Z.2.2 m = (Z.2.2 m - (rw3 g p m e X).2.2 m) + (if g (p + 1) = 1 then 1 else 0) := by rw [v4, xm.2.2]; omega
        rw [← e9]
        by_cases c : g m < 2
        · rw [v2.1 c, if_pos c]; rfl
        · rw [v2.2 c, xm.2.1, if_neg c]; rfl
      have sp : sq3 g D W (e - p).toNat p = gp3 W p ++ (sq3 g D W (m - (p + 1)).toNat (p + 1) ++ sq3 g D W (e - m).toNat m) := by
        rw [show (e - p).toNat = ((m - (p + 1)).toNat + (e - m).toNat) + 1 by omega]
        show gp3 W p ++ txN (g p) (D p) ++ sq3 g D W ((m - (p + 1)).toNat + (e - m).toNat) (p + 1) = _
        rw [sq3_app, show p + 1 + ((m - (p + 1)).toNat : Int) = m by omega, h0]
        show gp3 W p ++ [] ++ _ = _
        rw [List.append_nil]
      have ce : Y.2.2 e - X.2.2 e = (Y.2.2 e - Z.2.2 e) + (if g m < 2 then 1 else 0) := by rw [be3, v5]; omega
      have i0 : ∀ (P : Prop) (h : Decidable P), 0 ≤ (if P then 1 else 0 : Int) := fun P h => by split <;> omega
      rw [gp1] at q1
      rw [gpm] at q2
      generalize sq3 g D W (m - (p + 1)).toNat (p + 1) = s1 at q1 sp
      generalize sq3 g D W (e - m).toNat m = s2 at q2 sp
      have k1 : s1 ++ (List.replicate (Z.2.2 m - (rw3 g p m e X).2.2 m).toNat 41 ++ List.replicate ((if g (p + 1) = 1 then 1 else 0 : Int)).toNat 41) = wr (decide (g (p + 1) = 1)) l1 := by
        rw [← List.append_assoc s1, q1]
        exact rep_if
      have k2 : (if g m < 2 then [40] else []) ++ l2 ++ List.replicate ((if g m < 2 then 1 else 0 : Int)).toNat 41 = wr (decide (g m < 2)) l2 := rep_if
      rw [rep_add (by omega) (i0 _ _)] at q2
      have big : s1 ++ (s2 ++ (List.replicate (Y.2.2 e - Z.2.2 e).toNat 41 ++ List.replicate ((if g m < 2 then 1 else 0 : Int)).toNat 41)) = wr (decide (g (p + 1) = 1)) l1 ++ ([32] ++ wr (decide (g m < 2)) l2) := by
        rw [← List.append_assoc s2, q2, ← k1, ← k2]
        simp only [List.append_assoc]
      rw [sp, ce, rep_add (by omega) (i0 _ _), h3]
      simp only [List.append_assoc]
      rw [big]
    · obtain ⟨dk, d⟩ := d
      rcases d with ⟨c, _⟩ | ⟨_, d1⟩ | ⟨c, _⟩ <;> try omega
      rcases r with ⟨c, _⟩ | ⟨_, l3, r1⟩ | ⟨c, _⟩ <;> try omega
      obtain ⟨n1, i1⟩ := AR3_n r1
      have q1 := ih h1 d1 r1 (fun q z y => hW q (by omega) y) (fun q z y => hX q (by omega) y)
      obtain ⟨wp1, wp2, wp3⟩ := hW (p + 1) (by omega) (by omega)
      obtain ⟨bp1, bp2, bp3, _⟩ := i1 (p + 1)
      have xp := hX (p + 1) (by omega) (by omega)
      have gp1 : gp3 W (p + 1) = [] := by
        unfold gp3
        rw [wp3, bp3 (by omega), xp.2.2, wp1, bp1 (by omega), xp.1, wp2, bp2 (by omega), xp.2.1]
        rfl
      rw [gp1] at q1
      rw [show (e - p).toNat = (e - (p + 1)).toNat + 1 by omega]
      show gp3 W p ++ txN (g p) (D p) ++ sq3 g D W (e - (p + 1)).toNat (p + 1) ++ _ = _
      rw [List.append_assoc, q1, h2, dk, h0, List.nil_append, List.append_assoc]
    · obtain ⟨dk, d⟩ := d
      rcases r with ⟨c, _⟩ | ⟨c, _⟩ | ⟨_, _, r1⟩ <;> try omega
      rw [show (e - p).toNat = 0 + 1 by omega]
      show gp3 W p ++ txN (g p) (D p) ++ [] ++ _ = _
      rw [r1, show X.2.2 e - X.2.2 e = 0 by omega, h2, dk]
      show gp3 W p ++ txN (g p) k ++ [] ++ [] = _
      rw [List.append_nil, List.append_nil]
theorem txt_one {g : Int → Int} : ∀ {f f' : Nat} {k p e e' : Int} {l l' : List Int}, txt g f k p e l → txt g f' k p e' l' → l = l' := by
  intro f
  induction f with
  | zero => intro f' k p e e' l l' h; exact h.elim
  | succ f ih =>
    intro f' k p e e' l l' h h'
    cases f' with
    | zero => exact h'.elim
    | succ f' =>
      rcases h with ⟨h0, m, l1, l2, h1, h2, h3⟩ | ⟨h0, l1, h1, h2⟩ | ⟨h0, _, h1, h2⟩
      · rcases h' with ⟨_, m', l1', l2', h1', h2', h3'⟩ | ⟨c, _⟩ | ⟨c, _⟩ <;> try omega
        have e1 := tm_one (txt_tm h1) (txt_tm h1')
        subst e1
        have e2 := ih h1 h1'
        have e3 := ih h2 h2'
        subst e2; subst e3
        rw [h3, h3']
      · rcases h' with ⟨c, _⟩ | ⟨_, l1', h1', h2'⟩ | ⟨c, _⟩ <;> try omega
        have e2 := ih h1 h1'
        subst e2
        rw [h2, h2']
      · rcases h' with ⟨c, _⟩ | ⟨c, _⟩ | ⟨_, _, _, h2'⟩ <;> try omega
        rw [h2, h2']
theorem nmC_pos {d : Int} (h : 0 ≤ d) : ∀ v ∈ nmC d, 0 ≤ v := by
  intro v hv
  unfold nmC at hv
  split at hv
  · simp only [List.mem_cons, List.not_mem_nil, or_false] at hv
    omega
  · simp only [List.mem_cons, List.not_mem_nil, or_false] at hv
    omega
theorem wr_pos {b : Bool} {l : List Int} (h : ∀ v ∈ l, 0 ≤ v) : ∀ v ∈ wr b l, 0 ≤ v := by
  intro v hv
  unfold wr at hv
  split at hv
  · simp only [List.mem_append, List.mem_cons, List.not_mem_nil, or_false] at hv
    rcases hv with (hv | hv) | hv
    · omega
    · exact h v hv
    · omega
  · exact h v hv
theorem txL_pos (c : Int) : 0 ≤ txL c := by
  unfold txL
  repeat' split
  all_goals omega
theorem txt_pos {g : Int → Int} : ∀ {f : Nat} {k p e : Int} {l : List Int}, txt g f k p e l → 0 ≤ k → ∀ v ∈ l, 0 ≤ v := by
  intro f
  induction f with
  | zero => intro k p e l h; exact h.elim
  | succ f ih =>
    intro k p e l h hk v hv
    rcases h with ⟨h0, m, l1, l2, h1, h2, h3⟩ | ⟨h0, l1, h1, h2⟩ | ⟨h0, hb, h1, h2⟩
    · rw [h3] at hv
      simp only [List.mem_append, List.mem_cons, List.not_mem_nil, or_false] at hv
      rcases hv with (hv | hv) | hv
      · exact wr_pos (ih h1 hk) v hv
      · omega
      · exact wr_pos (ih h2 hk) v hv
    · rw [h2] at hv
      rcases List.mem_append.mp hv with hv | hv
      · have e : txN 1 k = [92] ++ nmC k ++ [46] := if_pos rfl
        rw [e] at hv
        simp only [List.mem_append, List.mem_cons, List.not_mem_nil, or_false] at hv
        rcases hv with (hv | hv) | hv
        · omega
        · exact nmC_pos hk v hv
        · omega
      · exact ih h1 (by omega) v hv
    · rw [h2] at hv
      unfold txN at hv
      rw [if_neg (by omega)] at hv
      by_cases c : 9 < g p
      · rw [if_pos c] at hv
        exact nmC_pos (by omega) v hv
      · rw [if_neg c, if_neg (by omega)] at hv
        have e : v = txL (g p) := List.mem_singleton.mp hv
        rw [e]
        exact txL_pos _
theorem txN_ne {c k : Int} (h : 2 ≤ c) : 1 ≤ (txN c k).length := by
  have h2 := nmC_len (k - 1 - (c - 10))
  unfold txN
  rw [if_neg (by omega)]
  by_cases c2 : 9 < c
  · rw [if_pos c2]; omega
  · rw [if_neg c2, if_neg (by omega)]; simp
theorem txt_ne {g : Int → Int} : ∀ {f : Nat} {k p e : Int} {l : List Int}, txt g f k p e l → 1 ≤ l.length := by
  intro f
  induction f with
  | zero => intro k p e l h; exact h.elim
  | succ f ih =>
    intro k p e l h
    rcases h with ⟨_, m, l1, l2, h1, h2, h3⟩ | ⟨_, l1, h1, h2⟩ | ⟨h0, _, h1, h2⟩
    · rw [h3]
      simp only [List.length_append, List.length_cons, List.length_nil]
      omega
    · have := ih h1
      rw [h2, List.length_append]
      omega
    · rw [h2]; exact txN_ne h0
theorem nmC_up {d : Int} (h : 0 ≤ d) (h1 : d ≤ 2000) : ∀ v ∈ nmC d, v < 100000 := by
  intro v hv
  unfold nmC at hv
  split at hv
  · simp only [List.mem_cons, List.not_mem_nil, or_false] at hv
    omega
  · simp only [List.mem_cons, List.not_mem_nil, or_false] at hv
    omega
theorem wr_up {b : Bool} {l : List Int} (h : ∀ v ∈ l, v < 100000) : ∀ v ∈ wr b l, v < 100000 := by
  intro v hv
  unfold wr at hv
  split at hv
  · simp only [List.mem_append, List.mem_cons, List.not_mem_nil, or_false] at hv
    rcases hv with (hv | hv) | hv
    · omega
    · exact h v hv
    · omega
  · exact h v hv
theorem txL_up (c : Int) : txL c < 100000 := by
  unfold txL
  repeat' split
  all_goals omega
theorem txt_up0 {g : Int → Int} : ∀ {f : Nat} {k p e : Int} {l : List Int}, txt g f k p e l → 0 ≤ k → k + (e - p) ≤ 2000 → ∀ v ∈ l, v < 100000 := by
  intro f
  induction f with
  | zero => intro k p e l h; exact h.elim
  | succ f ih =>
    intro k p e l h hk hke v hv
    have lt := txt_lt h
    rcases h with ⟨h0, m, l1, l2, h1, h2, h3⟩ | ⟨h0, l1, h1, h2⟩ | ⟨h0, hb, h1, h2⟩
    · have q1 := txt_lt h1
      have q2 := txt_lt h2
      rw [h3] at hv
      simp only [List.mem_append, List.mem_cons, List.not_mem_nil, or_false] at hv
      rcases hv with (hv | hv) | hv
      · exact wr_up (ih h1 hk (by omega)) v hv
      · omega
      · exact wr_up (ih h2 hk (by omega)) v hv
    · rw [h2] at hv
      rcases List.mem_append.mp hv with hv | hv
      · have e : txN 1 k = [92] ++ nmC k ++ [46] := if_pos rfl
        rw [e] at hv
        simp only [List.mem_append, List.mem_cons, List.not_mem_nil, or_false] at hv
        rcases hv with (hv | hv) | hv
        · omega
        · exact nmC_up hk (by omega) v hv
        · omega
      · exact ih h1 (by omega) (by omega) v hv
    · rw [h2] at hv
      unfold txN at hv
      rw [if_neg (by omega)] at hv
      by_cases c : 9 < g p
      · rw [if_pos c] at hv
        exact nmC_up (by omega) (by omega) v hv
      · rw [if_neg c, if_neg (by omega)] at hv
        have e : v = txL (g p) := List.mem_singleton.mp hv
        rw [e]
        exact txL_up _
theorem txt_up {g : Int → Int} {f : Nat} {e : Int} {l : List Int} (h : txt g f 0 0 e l) (he : e ≤ 2000) : ∀ v ∈ l, v < 100000 := txt_up0 h (Int.le_refl 0) (by omega)
