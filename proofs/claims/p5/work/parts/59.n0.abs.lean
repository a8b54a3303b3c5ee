/-! ABSTRACTION: what a lambda becomes; a code without lambdas: one answer for one code -/
def ab (g : Int → Int) : Nat → Int → Int → List Int → Prop
  | 0, _, _, _ => False
  | f + 1, p, e, r => (g p = 10 ∧ e = p + 1 ∧ r = [4]) ∨ (g p ≠ 10 ∧ (∀ j, p ≤ j → j < e → g j ≠ 10) ∧ r = [0, 3] ++ rg (lsI g) (e - p).toNat p) ∨ (g p = 0 ∧ (∃ j, p ≤ j ∧ j < e ∧ g j = 10) ∧ ∃ v, (∃ f k, tm g f k (p + 1) v) ∧ (∃ f k, tm g f k v e) ∧ ((g v = 10 ∧ (∀ j, p + 1 ≤ j → j < v → g j ≠ 10) ∧ r = rg (lsI g) (v - (p + 1)).toNat (p + 1)) ∨ (¬ (g v = 10 ∧ ∀ j, p + 1 ≤ j → j < v → g j ≠ 10) ∧ ∃ r1 r2, ab g f (p + 1) v r1 ∧ ab g f v e r2 ∧ r = [0, 0, 2] ++ r1 ++ r2)))
theorem ab_up {g : Int → Int} : ∀ {f : Nat} {p e : Int} {r : List Int}, ab g f p e r → ab g (f + 1) p e r := by
  intro f
  induction f with
  | zero => intro p e r h; exact h.elim
  | succ f ih =>
    intro p e r h
    rcases h with h | h | ⟨h0, h1, v, t1, t2, h⟩
    · exact Or.inl h
    · exact Or.inr (Or.inl h)
    · refine Or.inr (Or.inr ⟨h0, h1, v, t1, t2, ?_⟩)
      rcases h with h | ⟨h, r1, r2, a1, a2, h2⟩
      · exact Or.inl h
      · exact Or.inr ⟨h, r1, r2, ih a1, ih a2, h2⟩
theorem ab_le {g : Int → Int} {f f' : Nat} {p e : Int} {r : List Int} (h : f ≤ f') (t : ab g f p e r) : ab g f' p e r := by
  induction h with
  | refl => exact t
  | step _ ih => exact ab_up ih
theorem ls_eq {g g' : Int → Int} {n : Nat} {p : Int} (h : ∀ j, p ≤ j → j < p + n → g' j = g j) : rg (lsI g') n p = rg (lsI g) n p := rg_eq (fun j z y => by unfold lsI; rw [h j z y])
theorem ab_one {g g' : Int → Int} : ∀ {f f' : Nat} {p e : Int} {r r' : List Int}, (∀ j, p ≤ j → j < e → g' j = g j) → p < e → ab g f p e r → ab g' f' p e r' → r' = r := by
  intro f
  induction f with
  | zero => intro f' p e r r' _ _ h; exact h.elim
  | succ f ih =>
    intro f' p e r r' hg hpe h h'
    cases f' with
    | zero => exact h'.elim
    | succ f' =>
      have gp := hg p (by omega) hpe
      rcases h with ⟨h0, h1, h2⟩ | ⟨h0, h1, h2⟩ | ⟨h0, ⟨j, j1, j2, j3⟩, v, ⟨fa, ka, ta⟩, ⟨fb, kb, tb⟩, h⟩
      · rcases h' with ⟨_, _, h3⟩ | ⟨h3, _⟩ | ⟨h3, _⟩
        · rw [h2, h3]
        · omega
        · omega
      · rcases h' with ⟨h3, _⟩ | ⟨_, _, h3⟩ | ⟨h3, ⟨j, j1, j2, j3⟩, _⟩
        · omega
        · rw [h2, h3, ls_eq (fun j z y => hg j z (by omega))]
        · rw [hg j j1 j2] at j3; exact absurd j3 (h1 j j1 j2)
      · have la := tm_lt ta; have lb := tm_lt tb
        rcases h' with ⟨h3, _⟩ | ⟨_, h3, _⟩ | ⟨_, _, v', ⟨fa', ka', ta'⟩, ⟨fb', kb', tb'⟩, h'⟩
        · omega
        · exact absurd (by rw [hg j j1 j2]; exact j3) (h3 j j1 j2)
        · have e1 := tm_one (tm_eq (g' := g') (fun j z y => hg j (by omega) (by omega)) ta) ta'
          subst e1
          have gv := hg v (by omega) (by omega)
          rcases h with ⟨a1, a2, a3⟩ | ⟨a1, r1, r2, b1, b2, a3⟩ <;> rcases h' with ⟨c1, c2, c3⟩ | ⟨c1, r3, r4, d1, d2, c3⟩
          · rw [a3, c3, ls_eq (fun j z y => hg j (by omega) (by omega))]
          · exact absurd ⟨by omega, fun j z y => by rw [hg j (by omega) (by omega)]; exact a2 j z y⟩ c1
          · exact absurd ⟨by omega, fun j z y => by rw [← hg j (by omega) (by omega)]; exact c2 j z y⟩ a1
          · rw [a3, c3, ih (fun j z y => hg j (by omega) (by omega)) la b1 d1, ih (fun j z y => hg j (by omega) (by omega)) lb b2 d2]
theorem ab_len {g : Int → Int} : ∀ {f : Nat} {p e : Int} {r : List Int}, p < e → ab g f p e r → e - p ≤ r.length + 2 := by
  intro f
  induction f with
  | zero => intro p e r _ h; exact h.elim
  | succ f ih =>
    intro p e r hpe h
    rcases h with ⟨h0, h1, h2⟩ | ⟨h0, h1, h2⟩ | ⟨h0, _, v, ⟨fa, ka, ta⟩, ⟨fb, kb, tb⟩, h⟩
    · rw [h2]; simp only [List.length_cons, List.length_nil]; omega
    · rw [h2]; simp only [List.length_append, List.length_cons, List.length_nil, rg_len]; omega
    · have la := tm_lt ta; have lb := tm_lt tb
      rcases h with ⟨a1, a2, a3⟩ | ⟨a1, r1, r2, b1, b2, a3⟩
      · have := (tm_lf tb (by omega)).1
        rw [a3, rg_len]; omega
      · have := ih la b1; have := ih lb b2
        rw [a3]; simp only [List.length_append, List.length_cons, List.length_nil]; omega
/-- a part without the variable, its variables one less -/
theorem tL_ls {g : Int → Int} : ∀ {f : Nat} {k p e : Int}, tm g f (k + 1) p e → (∀ j, p ≤ j → j < e → g j ≠ 1) → (∀ j, p ≤ j → j < e → g j ≠ 10) → tL f k (rg (lsI g) (e - p).toNat p) := by
  intro f
  induction f with
  | zero => intro k p e h; exact h.elim
  | succ f ih =>
    intro k p e h h1 h10
    have hlt := tm_lt h
    rw [rg_cons hlt]
    have ns : g p ≤ 9 → lsI g p = g p := fun z => (lsI_n z).symm
    rcases h with ⟨h0, u, z1, z2⟩ | ⟨h0, z1⟩ | ⟨h0, z1, z2⟩
    · have l1 := tm_lt z1; have l2 := tm_lt z2
      rw [ns (by omega), h0, rg_cut (m := u) (by omega) (by omega)]
      exact Or.inl ⟨_, _, rfl, ih z1 (fun j z y => h1 j (by omega) (by omega)) (fun j z y => h10 j (by omega) (by omega)), ih z2 (fun j z y => h1 j (by omega) (by omega)) (fun j z y => h10 j (by omega) (by omega))⟩
    · exact absurd h0 (h1 p (by omega) (by omega))
    · rw [z2, show (p + 1 - (p + 1)).toNat = 0 by omega]
      refine Or.inr (Or.inr ⟨lsI g p, rfl, ?_⟩)
      have hn := h10 p (by omega) (by omega)
      by_cases h9 : 9 < g p
      · rw [← lsI_y h9]; omega
      · rw [← lsI_n (by omega)]; omega
theorem ab_tL {g : Int → Int} : ∀ {f f0 : Nat} {k p e : Int} {r : List Int}, tm g f0 (k + 1) p e → (∀ j, p ≤ j → j < e → g j ≠ 1) → ab g f p e r → ∃ F, tL F k r := by
  intro f
  induction f with
  | zero => intro f0 k p e r _ _ h; exact h.elim
  | succ f ih =>
    intro f0 k p e r t h1 h
    have hlt := tm_lt t
    rcases h with ⟨h0, h2, h3⟩ | ⟨h0, h2, h3⟩ | ⟨h0, _, v, ⟨fa, ka, ta⟩, ⟨fb, kb, tb⟩, h⟩
    · exact ⟨1, Or.inr (Or.inr ⟨4, h3, by omega, by omega⟩)⟩
    · have ht := tL_ls t h1 h2
      refine ⟨f0 + 2, Or.inl ⟨[3], _, h3, Or.inr (Or.inr ⟨3, rfl, by omega, by omega⟩), tL_up ht⟩⟩
    · obtain ⟨f1, v', t1, t2, _⟩ := tm_app t h0
      have e1 := tm_one t1 ta
      subst e1
      have la := tm_lt t1; have lb := tm_lt t2
      rcases h with ⟨a1, a2, a3⟩ | ⟨a1, r1, r2, b1, b2, a3⟩
      · rw [a3]
        exact ⟨_, tL_ls t1 (fun j z y => h1 j (by omega) (by omega)) a2⟩
      · obtain ⟨F1, T1⟩ := ih t1 (fun j z y => h1 j (by omega) (by omega)) b1
        obtain ⟨F2, T2⟩ := ih t2 (fun j z y => h1 j (by omega) (by omega)) b2
        refine ⟨F1 + F2 + 2, Or.inl ⟨0 :: ([2] ++ r1), r2, ?_, Or.inl ⟨[2], r1, rfl, ?_, tL_le (by omega) T1⟩, tL_le (by omega) T2⟩⟩
        · rw [a3]; simp only [List.cons_append, List.append_assoc, List.nil_append]
        · exact tL_le (f := 1) (by
            cases F1 with
            | zero => exact T1.elim
            | succ n => omega) (Or.inr (Or.inr ⟨2, rfl, by omega, by omega⟩))
theorem ls_no1 {g : Int → Int} {n : Nat} {p : Int} (h : ∀ j, p ≤ j → j < p + n → g j ≠ 1) : ∀ v ∈ rg (lsI g) n p, v ≠ 1 := by
  intro v hv
  obtain ⟨j, a1, a2, a3⟩ := rg_mem hv
  rw [a3]
  have := h j a1 a2
  unfold lsI
  split
  · omega
  · exact this
theorem ab_no1 {g : Int → Int} : ∀ {f : Nat} {p e : Int} {r : List Int}, p < e → (∀ j, p ≤ j → j < e → g j ≠ 1) → ab g f p e r → ∀ v ∈ r, v ≠ 1 := by
  intro f
  induction f with
  | zero => intro p e r _ _ h; exact h.elim
  | succ f ih =>
    intro p e r hpe h1 h v hv
    rcases h with ⟨h0, h2, h3⟩ | ⟨h0, h2, h3⟩ | ⟨h0, _, w, ⟨fa, ka, ta⟩, ⟨fb, kb, tb⟩, h⟩
    · rw [h3] at hv; have := List.mem_singleton.mp hv; omega
    · rw [h3] at hv
      rcases List.mem_append.mp hv with hv | hv
      · simp only [List.mem_cons, List.not_mem_nil, or_false] at hv; omega
      · exact ls_no1 (fun j z y => h1 j z (by omega)) v hv
    · have la := tm_lt ta; have lb := tm_lt tb
      rcases h with ⟨a1, a2, a3⟩ | ⟨a1, r1, r2, b1, b2, a3⟩
      · rw [a3] at hv
        exact ls_no1 (fun j z y => h1 j (by omega) (by omega)) v hv
      · rw [a3] at hv
        rcases List.mem_append.mp hv with hv | hv
        · rcases List.mem_append.mp hv with hv | hv
          · simp only [List.mem_cons, List.not_mem_nil, or_false] at hv; omega
          · exact ih la (fun j z y => h1 j (by omega) (by omega)) b1 v hv
        · exact ih lb (fun j z y => h1 j (by omega) (by omega)) b2 v hv
/-- the last lambda taken out: l1 the code behind it, r what it became -/
def abS (l l1 r : List Int) : Prop := ∃ (g : Int → Int) (q e : Int) (f : Nat), rg g l.length 0 = l ∧ 0 ≤ q ∧ q < l.length ∧ g q = 1 ∧ (∀ j, q < j → j < (l.length : Int) → g j ≠ 1) ∧ (∃ f k, tm g f k q e) ∧ ab g f (q + 1) e r ∧ l1 = rg g q.toNat 0 ++ r ++ rg g ((l.length : Int) - e).toNat e
def abR : Nat → List Int → Option (List Int) → Prop
  | 0, l, o => (∀ v ∈ l, v ≠ 1) ∧ o = if l.length ≤ 500 then some l else none
  | n + 1, l, o => ((∀ v ∈ l, v ≠ 1) ∧ o = if l.length ≤ 500 then some l else none) ∨ ∃ l1 r, abS l l1 r ∧ ((500 < r.length ∧ o = none) ∨ (r.length ≤ 500 ∧ abR n l1 o))
theorem rg_in {g : Int → Int} {n : Nat} {p j : Int} (h0 : p ≤ j) (h1 : j < p + n) : g j ∈ rg g n p := by
  have : ∀ (n : Nat) (p : Int), p ≤ j → j < p + n → g j ∈ rg g n p := by
    intro n
    induction n with
    | zero => intro p a b; omega
    | succ n ih =>
      intro p a b
      by_cases hj : j = p
      · subst hj; exact List.mem_cons_self
      · exact List.mem_cons_of_mem _ (ih (p + 1) (by omega) (by omega))
  exact this n p h0 h1
theorem abS_one {l l1 r l2 r2 : List Int} {F : Nat} (t : tL F 0 l) (h : abS l l1 r) (h' : abS l l2 r2) : l2 = l1 ∧ r2 = r := by
  obtain ⟨g, q, e, f, hg, q0, q1, h1, hn, ⟨fe, ke, te⟩, hab, hl⟩ := h
  obtain ⟨g', q', e', f', hg', q0', q1', h1', hn', ⟨fe', ke', te'⟩, hab', hl'⟩ := h'
  have he := rg_same hg hg'
  have eq : q = q' := by
    by_cases z : q < q'
    · exact absurd (by rw [← he q' q0' q1']; exact h1') (hn q' z q1')
    · by_cases y : q' < q
      · exact absurd (by rw [he q q0 q1]; exact h1) (hn' q y q1)
      · omega
  subst eq
  have tg := tL_tm0 t hg
  obtain ⟨f3, k3, e3, t3, l3, _⟩ := tm_sub tg q q0 q1
  have e1 := tm_one t3 te
  subst e1
  have lt := tm_lt t3
  have e2 := tm_one (tm_eq (g' := g') (fun j z y => he j (by omega) (by omega)) t3) te'
  subst e2
  obtain ⟨f4, t4, _⟩ := tm_lam t3 h1
  have lt4 := tm_lt t4
  have e5 := ab_one (fun j z y => he j (by omega) (by omega)) lt4 hab hab'
  subst e5
  refine ⟨?_, rfl⟩
  rw [hl, hl', rg_eq (g := g) (g' := g') (p := 0) (fun j z y => he j (by omega) (by omega)), rg_eq (g := g) (g' := g') (p := e3) (fun j z y => he j (by omega) (by omega))]
theorem abS_facts {l l1 r : List Int} {F : Nat} (t : tL F 0 l) (h : abS l l1 r) : (∃ F', tL F' 0 l1) ∧ (∀ v ∈ r, v ≠ 1) ∧ l1.count 1 + 1 = l.count 1 ∧ l.length ≤ l1.length + 3 ∧ r.length ≤ l1.length := by
  obtain ⟨g, q, e, f, hg, q0, q1, h1, hn, ⟨fe, ke, te⟩, hab, hl⟩ := h
  have tg := tL_tm0 t hg
  obtain ⟨f', k', e', t1, le', lk, lk2, hh⟩ := tm_put tg q q0 q1
  have e1 := tm_one t1 te
  subst e1
  have lt := tm_lt t1
  obtain ⟨f4, t4, _⟩ := tm_lam t1 h1
  have lt4 := tm_lt t4
  have no1 : ∀ j, q + 1 ≤ j → j < e' → g j ≠ 1 := fun j z y => hn j (by omega) (by omega)
  obtain ⟨F2, T2⟩ := ab_tL t4 no1 hab
  have nr := ab_no1 lt4 no1 hab
  have hlen := ab_len lt4 hab
  have hput := hh r F2 T2
  rw [show (q - 0).toNat = q.toNat by omega] at hput
  have hsplit : l = rg g q.toNat 0 ++ (1 :: rg g (e' - (q + 1)).toNat (q + 1)) ++ rg g ((l.length : Int) - e').toNat e' := by
    have c1 : rg g ((l.length : Int) - 0).toNat 0 = rg g (q - 0).toNat 0 ++ rg g ((l.length : Int) - q).toNat q := rg_cut (by omega) (by omega)
    have c2 : rg g ((l.length : Int) - q).toNat q = rg g (e' - q).toNat q ++ rg g ((l.length : Int) - e').toNat e' := rg_cut (by omega) (by omega)
    rw [show ((l.length : Int) - 0).toNat = l.length by omega, hg, show (q - 0).toNat = q.toNat by omega, c2, rg_cons lt, h1] at c1
    rw [← List.append_assoc] at c1
    exact c1
  have nb : ∀ v ∈ rg g (e' - (q + 1)).toNat (q + 1), v ≠ 1 := fun v hv => by
    obtain ⟨j, a1, a2, a3⟩ := rg_mem hv
    rw [a3]; exact no1 j a1 (by omega)
  have cr : r.count 1 = 0 := List.count_eq_zero.mpr (fun z => nr 1 z rfl)
  have cb : (rg g (e' - (q + 1)).toNat (q + 1)).count 1 = 0 := List.count_eq_zero.mpr (fun z => nb 1 z rfl)
  refine ⟨by rw [hl]; exact ⟨_, hput⟩, nr, ?_, ?_, ?_⟩
  · rw [hl]
    conv => rhs; rw [hsplit]
    simp only [List.count_append, List.count_cons, cr, cb]
    simp
    omega
  · have : l.length = q.toNat + (1 + (e' - (q + 1)).toNat) + ((l.length : Int) - e').toNat := by omega
    rw [hl]; simp only [List.length_append, rg_len]; omega
  · rw [hl]; simp only [List.length_append, rg_len]; omega
theorem abR_one : ∀ {n n' : Nat} {l : List Int} {o o' : Option (List Int)} {F : Nat}, tL F 0 l → abR n l o → abR n' l o' → o' = o := by
  intro n
  have base : ∀ {n' : Nat} {l : List Int} {o o' : Option (List Int)}, (∀ v ∈ l, v ≠ 1) → o = (if l.length ≤ 500 then some l else none) → abR n' l o' → o' = o := by
    intro n' l o o' h1 h2 h'
    have no : ∀ l1 r, ¬ abS l l1 r := fun l1 r ⟨g, q, e, f, hg, q0, q1, hq, _⟩ => by
      have hm := rg_in (g := g) (n := l.length) (p := 0) (j := q) q0 (by omega)
      rw [hg, hq] at hm
      exact h1 1 hm rfl
    cases n' with
    | zero => rw [h2]; exact h'.2
    | succ n' =>
      rcases h' with ⟨_, h3⟩ | ⟨l1, r, hs, _⟩
      · rw [h2, h3]
      · exact absurd hs (no l1 r)
  induction n with
  | zero => intro n' l o o' F _ h h'; exact base h.1 h.2 h'
  | succ n ih =>
    intro n' l o o' F t h h'
    rcases h with ⟨h1, h2⟩ | ⟨l1, r, hs, h⟩
    · exact base h1 h2 h'
    · have hex : ∃ v ∈ l, v = 1 := by
        obtain ⟨g, q, e, f, hg, q0, q1, hq, _⟩ := hs
        have hm := rg_in (g := g) (n := l.length) (p := 0) (j := q) q0 (by omega)
        rw [hg, hq] at hm
        exact ⟨1, hm, rfl⟩
      obtain ⟨v, hv, hv1⟩ := hex
      obtain ⟨⟨F', t1⟩, _⟩ := abS_facts t hs
      cases n' with
      | zero => exact absurd hv1 (h'.1 v hv)
      | succ n' =>
        rcases h' with ⟨h3, _⟩ | ⟨l2, r2, hs', h'⟩
        · exact absurd hv1 (h3 v hv)
        · obtain ⟨e1, e2⟩ := abS_one t hs hs'
          subst e1; subst e2
          rcases h with ⟨a1, a2⟩ | ⟨a1, a2⟩ <;> rcases h' with ⟨b1, b2⟩ | ⟨b1, b2⟩ <;> try omega
          · rw [a2, b2]
          · exact ih t1 a2 b2
theorem abR_big : ∀ {n : Nat} {l : List Int} {o : Option (List Int)} {F : Nat}, tL F 0 l → abR n l o → 500 + 3 * l.count 1 < l.length → o = none := by
  intro n
  induction n with
  | zero => intro l o F _ h hl; rw [h.2, if_neg (by omega)]
  | succ n ih =>
    intro l o F t h hl
    rcases h with ⟨_, h2⟩ | ⟨l1, r, hs, h⟩
    · rw [h2, if_neg (by omega)]
    · obtain ⟨⟨F', t1⟩, _, h3, h4, h5⟩ := abS_facts t hs
      rcases h with ⟨_, h⟩ | ⟨_, h⟩
      · exact h
      · exact ih t1 h (by omega)
theorem abR_ok : ∀ {n : Nat} {l l' : List Int} {F : Nat}, tL F 0 l → abR n l (some l') → l'.length ≤ 500 ∧ ∃ F', tL F' 0 l' := by
  intro n
  induction n with
  | zero =>
    intro l l' F t h
    have h2 := h.2
    split at h2
    · rename_i hl; cases h2; exact ⟨hl, F, t⟩
    · cases h2
  | succ n ih =>
    intro l l' F t h
    rcases h with ⟨_, h2⟩ | ⟨l1, r, hs, h⟩
    · split at h2
      · rename_i hl; cases h2; exact ⟨hl, F, t⟩
      · cases h2
    · obtain ⟨⟨F', t1⟩, _⟩ := abS_facts t hs
      rcases h with ⟨_, h⟩ | ⟨_, h⟩
      · cases h
      · exact ih t1 h
theorem abR_up : ∀ {n : Nat} {l : List Int} {o : Option (List Int)}, abR n l o → abR (n + 1) l o := by
  intro n
  induction n with
  | zero => intro l o h; exact Or.inl h
  | succ n ih =>
    intro l o h
    rcases h with h | ⟨l1, r, hs, h⟩
    · exact Or.inl h
    · refine Or.inr ⟨l1, r, hs, ?_⟩
      rcases h with h | ⟨h1, h2⟩
      · exact Or.inl h
      · exact Or.inr ⟨h1, ih h2⟩
/-- a code has an answer -/
theorem ab_ex {g : Int → Int} : ∀ {f : Nat} {k p e : Int}, tm g f k p e → (∀ j, p ≤ j → j < e → g j ≠ 1) → ∃ r, ab g f p e r := by
  intro f
  induction f with
  | zero => intro k p e h; exact h.elim
  | succ f ih =>
    intro k p e t h1
    have lt := tm_lt t
    by_cases h10 : ∃ j, p ≤ j ∧ j < e ∧ g j = 10
    · rcases t with ⟨h0, v, t1, t2⟩ | ⟨h0, _⟩ | ⟨h0, h2, h3⟩
      · have l1 := tm_lt t1; have l2 := tm_lt t2
        by_cases hv : g v = 10 ∧ ∀ j, p + 1 ≤ j → j < v → g j ≠ 10
        · exact ⟨_, Or.inr (Or.inr ⟨h0, h10, v, ⟨_, _, t1⟩, ⟨_, _, t2⟩, Or.inl ⟨hv.1, hv.2, rfl⟩⟩)⟩
        · obtain ⟨r1, a1⟩ := ih t1 (fun j z y => h1 j (by omega) (by omega))
          obtain ⟨r2, a2⟩ := ih t2 (fun j z y => h1 j (by omega) (by omega))
          exact ⟨_, Or.inr (Or.inr ⟨h0, h10, v, ⟨_, _, t1⟩, ⟨_, _, t2⟩, Or.inr ⟨hv, r1, r2, a1, a2, rfl⟩⟩)⟩
      · exact absurd h0 (h1 p (by omega) lt)
      · obtain ⟨j, j1, j2, j3⟩ := h10
        exact ⟨[4], Or.inl ⟨by rw [show p = j by omega]; exact j3, h3, rfl⟩⟩
    · exact ⟨_, Or.inr (Or.inl ⟨fun z => h10 ⟨p, by omega, lt, z⟩, fun j a b c => h10 ⟨j, a, b, c⟩, rfl⟩)⟩
