/-! TYPING a row of terms: what each has, what is asked of each: pure -/
theorem HT_up {g : Int → Int} : ∀ {f : Nat} {G : List (List Int)} {sh u : List Int} {p e : Int}, HT g f G sh p e u → HT g (f + 1) G sh p e u := by
  intro f
  induction f with
  | zero => intro G sh u p e h; exact h.elim
  | succ f ih =>
    intro G sh u p e h
    rcases h with ⟨h0, m, a, ta, h1, h2⟩ | ⟨h0, a, b, ta, e1, h1⟩ | h
    · exact Or.inl ⟨h0, m, a, ta, ih h1, ih h2⟩
    · exact Or.inr (Or.inl ⟨h0, a, b, ta, e1, ih h1⟩)
    · exact Or.inr (Or.inr h)
theorem HT_le {g : Int → Int} {f f' : Nat} {G : List (List Int)} {sh u : List Int} {p e : Int} (h : f ≤ f') (t : HT g f G sh p e u) : HT g f' G sh p e u := by
  induction h with
  | refl => exact t
  | step _ ih => exact HT_up ih
theorem ty_arw {a b : List Int} (h1 : ty a) (h2 : ty b) : ty (arw a b) := ty_a h1 h2
theorem ty_res {a b : List Int} (h1 : ty a) (h : ty (arw a b)) : ty b := by
  obtain ⟨f, h⟩ := h
  obtain ⟨f', h1⟩ := h1
  cases f with
  | zero => exact h.elim
  | succ f =>
    rcases h with ⟨l1, l2, e, t1, t2⟩ | ⟨v, hv, e⟩
    · have e1 : a ++ b = l1 ++ l2 := (List.cons.inj e).2
      obtain ⟨_, e2⟩ := tyL_pre h1 t1 e1
      exact ⟨f, by rw [e2]; exact t2⟩
    · have := (List.cons.inj e).1
      omega
theorem arw_inj {a b c d : List Int} (h : ty a) (h' : ty c) (e : arw a b = arw c d) : a = c ∧ b = d := ty_inj h h' e
def HF (g : Int → Int) (cx : Int → List Int) (n : Int) (τ : Int → List Int) (sh : List Int) : List (List Int) → Int → Prop
  | [], p => p = n
  | u :: us, p => ∃ e f, HT g f ((cx p).map τ) sh p e u ∧ HF g cx n τ sh us e
/-- n terms from p to z; D is how deep each stands, none deeper than those ahead of it -/
def FO9 (g D : Int → Int) (z : Int) : Nat → Int → Prop
  | 0, p => p = z
  | n + 1, p => 0 ≤ p ∧ p < z ∧ ∃ e f f' k', tm g f' k' p e ∧ dp g D f (D p) p e ∧ 0 ≤ D p ∧ (n ≠ 0 → D e ≤ D p) ∧ FO9 g D z n e
theorem HF_cg {g D : Int → Int} {z : Int} {cx cx' : Int → List Int} {τ τ' : Int → List Int} {sh : List Int} : ∀ {us : List (List Int)} {p : Int}, FO9 g D z us.length p → (∀ q, p ≤ q → q < z → D q ≤ D p → (cx' q).map τ' = (cx q).map τ) → HF g cx z τ sh us p → HF g cx' z τ' sh us p := by
  intro us
  induction us with
  | nil => intro p _ _ h; exact h
  | cons u us ih =>
    intro p hf hc h
    obtain ⟨p0, p1, e, f, f', k', t, d, d0, d1, hf2⟩ := hf
    obtain ⟨e2, f2, h1, h2⟩ := h
    have he := HT_tm h1 ⟨_, _, t⟩
    subst he
    have hl := tm_lt t
    refine ⟨e2, f2, by rw [hc p (Int.le_refl _) p1 (Int.le_refl _)]; exact h1, ?_⟩
    cases us with
    | nil => exact h2
    | cons v vs => exact ih hf2 (fun q a b c => hc q (by omega) b (by have := d1 (by simp); omega)) h2
section
variable {g : Int → Int} {cx : Int → List Int} {n : Int} {τ : Int → List Int} {sh u : List Int} {us : List (List Int)} {p : Int}
theorem HF_app {e : Int} (ht : ∃ f k, tm g f k p e) (h0 : g p = 0) (hc1 : cx (p + 1) = cx p) (hc2 : ∀ m, (∃ f k, tm g f k (p + 1) m) → cx m = cx p) : HF g cx n τ sh (u :: us) p ↔ ∃ a, ty a ∧ HF g cx n τ sh (arw a u :: a :: us) (p + 1) := by
  obtain ⟨f, k, t⟩ := ht
  obtain ⟨f1, m1, t1, t2, _⟩ := tm_app t h0
  constructor
  · rintro ⟨e2, f2, h1, h2⟩
    cases f2 with
    | zero => exact h1.elim
    | succ f2 =>
      rcases h1 with ⟨_, m, a, ta, h3, h4⟩ | ⟨h3, _⟩ | ⟨h3, _⟩
      · have hm := HT_tm h3 ⟨_, _, t1⟩
        refine ⟨a, ta, m, f2, by rw [hc1]; exact h3, e2, f2, ?_, h2⟩
        rw [hc2 m ⟨_, _, by rw [hm]; exact t1⟩]
        exact h4
      · omega
      · omega
  · rintro ⟨a, ta, m, f2, h3, e2, f3, h4, h2⟩
    have hm := HT_tm h3 ⟨_, _, t1⟩
    rw [hc1] at h3
    rw [hc2 m ⟨_, _, by rw [hm]; exact t1⟩] at h4
    exact ⟨e2, f2 + f3 + 1, Or.inl ⟨h0, m, a, ta, HT_le (by omega) h3, HT_le (by omega) h4⟩, h2⟩
theorem HF_lam (h0 : g p = 1) : HF g cx n τ sh (u :: us) p ↔ ∃ a b e f, ty a ∧ u = arw a b ∧ HT g f (a :: (cx p).map τ) sh (p + 1) e b ∧ HF g cx n τ sh us e := by
  constructor
  · rintro ⟨e2, f2, h1, h2⟩
    cases f2 with
    | zero => exact h1.elim
    | succ f2 =>
      rcases h1 with ⟨h3, _⟩ | ⟨_, a, b, ta, e1, h3⟩ | ⟨h3, _⟩
      · omega
      · exact ⟨a, b, e2, f2, ta, e1, h3, h2⟩
      · omega
  · rintro ⟨a, b, e, f, ta, e1, h3, h2⟩
    exact ⟨e, f + 1, Or.inr (Or.inl ⟨h0, a, b, ta, e1, h3⟩), h2⟩
theorem HF_leaf (h0 : 2 ≤ g p) : HF g cx n τ sh (u :: us) p ↔ (lt9 (g p) ((cx p).map τ) sh u ∧ HF g cx n τ sh us (p + 1)) := by
  constructor
  · rintro ⟨e2, f2, h1, h2⟩
    cases f2 with
    | zero => exact h1.elim
    | succ f2 =>
      rcases h1 with ⟨h3, _⟩ | ⟨h3, _⟩ | ⟨_, e1, h3⟩
      · omega
      · omega
      · rw [e1] at h2; exact ⟨h3, h2⟩
  · rintro ⟨h3, h2⟩
    exact ⟨p + 1, 1, Or.inr (Or.inr ⟨h0, rfl, h3⟩), h2⟩
end
/-- letters: the context says nothing -/
theorem lt9_G {c : Int} {G G' : List (List Int)} {sh u : List Int} (h : c < 10) (t : lt9 c G sh u) : lt9 c G' sh u := by
  rcases t with t | t | t | t | t | ⟨t, _⟩
  · exact Or.inl t
  · exact Or.inr (Or.inl t)
  · exact Or.inr (Or.inr (Or.inl t))
  · exact Or.inr (Or.inr (Or.inr (Or.inl t)))
  · exact Or.inr (Or.inr (Or.inr (Or.inr (Or.inl t))))
  · omega
theorem lt9_v {c : Int} {G : List (List Int)} {sh u : List Int} (h : 10 ≤ c) : lt9 c G sh u ↔ G[(c - 10).toNat]? = some u := by
  constructor
  · rintro (⟨h1, _⟩ | ⟨h1, _⟩ | ⟨h1, _⟩ | ⟨h1, _⟩ | ⟨h1, _⟩ | ⟨_, h1⟩)
    · omega
    · omega
    · omega
    · omega
    · omega
    · exact h1
  · intro h1
    exact Or.inr (Or.inr (Or.inr (Or.inr (Or.inr ⟨h, h1⟩))))
/-- what is bound around a place, by the row of binders -/
def cxB (bn : Int → Int) (d : Int) : List Int := (List.range d.toNat).map (fun m : Nat => bn (d - 1 - (m : Int)))
theorem cxB_get {bn : Int → Int} {d i : Int} (h0 : 0 ≤ i) (h1 : i < d) : (cxB bn d)[i.toNat]? = some (bn (d - 1 - i)) := by
  unfold cxB
  rw [List.getElem?_map, List.getElem?_range (by omega)]
  show some (bn (d - 1 - ((i.toNat : Nat) : Int))) = _
  rw [show ((i.toNat : Nat) : Int) = i by omega]
theorem cxB_mem {bn : Int → Int} {d x : Int} (h : x ∈ cxB bn d) : ∃ q, 0 ≤ q ∧ q < d ∧ x = bn q := by
  unfold cxB at h
  obtain ⟨m, h1, h2⟩ := List.mem_map.mp h
  have := List.mem_range.mp h1
  exact ⟨d - 1 - (m : Int), by omega, by omega, h2.symm⟩
theorem cxB_eq {bn bn' : Int → Int} {d : Int} (h : ∀ q, 0 ≤ q → q < d → bn' q = bn q) : cxB bn' d = cxB bn d := by
  unfold cxB
  refine List.map_congr_left (fun m hm => ?_)
  have := List.mem_range.mp hm
  exact h _ (by omega) (by omega)
theorem cxB_s {bn bn' : Int → Int} {d x : Int} (h0 : 0 ≤ d) (h : ∀ q, 0 ≤ q → q < d → bn' q = bn q) (hx : bn' d = x) : cxB bn' (d + 1) = x :: cxB bn d := by
  unfold cxB
  rw [show (d + 1).toNat = d.toNat + 1 by omega, List.range_succ_eq_map, List.map_cons, List.map_map]
  refine congr (congrArg List.cons ?_) ?_
  · rw [show d + 1 - 1 - ((0 : Nat) : Int) = d by omega]; exact hx
  · refine List.map_congr_left (fun m hm => ?_)
    have := List.mem_range.mp hm
    show bn' (d + 1 - 1 - ((m.succ : Nat) : Int)) = bn (d - 1 - (m : Int))
    rw [show d + 1 - 1 - ((m.succ : Nat) : Int) = d - 1 - (m : Int) by omega]
    exact h _ (by omega) (by omega)
/-- the last lambda ahead of a place that stands d deep -/
def lmf (g D : Int → Int) : Nat → Int → Int
  | 0, _ => -1
  | n + 1, d => if g n = 1 ∧ D n = d then (n : Int) else lmf g D n d
theorem lmf_is {g D : Int → Int} {d : Int} : ∀ {n : Nat}, 0 ≤ lmf g D n d → lmf g D n d < n ∧ g (lmf g D n d) = 1 ∧ D (lmf g D n d) = d := by
  intro n
  induction n with
  | zero => intro h; exact absurd h (by show ¬ (0 : Int) ≤ -1; omega)
  | succ n ih =>
    show 0 ≤ (if g n = 1 ∧ D n = d then (n : Int) else lmf g D n d) → _
    intro h
    show (if g n = 1 ∧ D n = d then (n : Int) else lmf g D n d) < _ ∧ g (if g n = 1 ∧ D n = d then (n : Int) else lmf g D n d) = 1 ∧ D (if g n = 1 ∧ D n = d then (n : Int) else lmf g D n d) = d
    by_cases c : g n = 1 ∧ D n = d
    · rw [if_pos c]; exact ⟨by omega, c.1, c.2⟩
    · rw [if_neg c] at h ⊢
      have := ih h
      exact ⟨by omega, this.2⟩
theorem lmf_skip {g D : Int → Int} {d : Int} : ∀ {m n : Nat}, (∀ j : Int, (n : Int) ≤ j → j < (n : Int) + m → ¬ (g j = 1 ∧ D j = d)) → lmf g D (n + m) d = lmf g D n d := by
  intro m
  induction m with
  | zero => intro n _; rfl
  | succ m ih =>
    intro n h
    show (if g ((n + m : Nat) : Int) = 1 ∧ D ((n + m : Nat) : Int) = d then _ else lmf g D (n + m) d) = _
    rw [if_neg (h _ (by omega) (by omega)), ih (fun j a b => h j a (by omega))]
def cxL (g D lt : Int → Int) (p : Int) : List Int := cxB (fun d => lt (lmf g D p.toNat d)) (D p)
theorem cxL_end {g D lt : Int → Int} {f : Nat} {p e : Int} (h : dp g D f (D p) p e) (h0 : 0 ≤ p) (he : D e = D p) : cxL g D lt e = cxL g D lt p := by
  unfold cxL
  rw [he]
  refine cxB_eq (fun q a b => ?_)
  have hl := dp_lt h
  have := lmf_skip (g := g) (D := D) (d := q) (n := p.toNat) (m := (e - p).toNat) (fun j c1 c2 c3 => by
    have := dp_in h j (by omega) (by omega)
    omega)
  rw [show p.toNat + (e - p).toNat = e.toNat by omega] at this
  show lt (lmf g D e.toNat q) = lt (lmf g D p.toNat q)
  rw [this]
theorem cxL_app {g D lt : Int → Int} {p : Int} (h0 : 0 ≤ p) (hg : g p ≠ 1) (hd : D (p + 1) = D p) : cxL g D lt (p + 1) = cxL g D lt p := by
  unfold cxL
  rw [hd]
  refine cxB_eq (fun q a b => ?_)
  show lt (lmf g D (p + 1).toNat q) = lt (lmf g D p.toNat q)
  rw [show (p + 1).toNat = p.toNat + 1 by omega]
  show lt (if g (p.toNat : Int) = 1 ∧ D (p.toNat : Int) = q then _ else lmf g D p.toNat q) = _
  rw [if_neg (by rw [show ((p.toNat : Nat) : Int) = p by omega]; exact fun z => hg z.1)]
theorem cxL_lam {g D lt : Int → Int} {p : Int} (h0 : 0 ≤ p) (hg : g p = 1) (hd0 : 0 ≤ D p) (hd : D (p + 1) = D p + 1) : cxL g D lt (p + 1) = lt p :: cxL g D lt p := by
  unfold cxL
  rw [hd]
  have e1 : ∀ q, lmf g D (p + 1).toNat q = if D p = q then p else lmf g D p.toNat q := fun q => by
    rw [show (p + 1).toNat = p.toNat + 1 by omega]
    show (if g (p.toNat : Int) = 1 ∧ D (p.toNat : Int) = q then ((p.toNat : Nat) : Int) else lmf g D p.toNat q) = _
    rw [show ((p.toNat : Nat) : Int) = p by omega]
    by_cases c : D p = q
    · rw [if_pos c, if_pos ⟨hg, c⟩]
    · rw [if_neg c, if_neg (fun z => c z.2)]
  refine cxB_s hd0 (fun q a b => ?_) ?_
  · show lt (lmf g D (p + 1).toNat q) = lt (lmf g D p.toNat q)
    rw [e1, if_neg (by omega)]
  · show lt (lmf g D (p + 1).toNat (D p)) = lt p
    rw [e1, if_pos rfl]
theorem dpa9 {g D : Int → Int} {f : Nat} {k p e : Int} (h : dp g D f k p e) (h0 : g p = 0) : ∃ f' m, dp g D f' k (p + 1) m ∧ dp g D f' k m e := by
  cases f with
  | zero => exact h.elim
  | succ f =>
    rcases h with ⟨_, ⟨_, m, z1, z2⟩ | ⟨h1, _⟩ | ⟨h1, _⟩⟩
    · exact ⟨f, m, z1, z2⟩
    · omega
    · omega
theorem dpl9 {g D : Int → Int} {f : Nat} {k p e : Int} (h : dp g D f k p e) (h0 : g p = 1) : ∃ f', dp g D f' (k + 1) (p + 1) e := by
  cases f with
  | zero => exact h.elim
  | succ f =>
    rcases h with ⟨_, ⟨h1, _⟩ | ⟨_, z1⟩ | ⟨h1, _⟩⟩
    · omega
    · exact ⟨f, z1⟩
    · omega
/-- what stands behind a part stands no deeper than it -/
theorem dp_aft {g D : Int → Int} : ∀ {f : Nat} {k a b : Int}, dp g D f k a b → ∀ p, a ≤ p → p < b → ∃ f' e, dp g D f' (D p) p e ∧ e ≤ b ∧ (e < b → D e ≤ D p) := by
  intro f
  induction f with
  | zero => intro k a b h; exact h.elim
  | succ f ih =>
    intro k a b h p h1 h2
    by_cases c : p = a
    · subst c
      rw [dp_head h]
      exact ⟨f + 1, b, h, Int.le_refl _, fun z => by omega⟩
    · obtain ⟨hd, ⟨h0, m, z1, z2⟩ | ⟨h0, z1⟩ | ⟨h0, z1⟩⟩ := h
      · by_cases c2 : p < m
        · obtain ⟨f', e, y1, y2, y3⟩ := ih z1 p (by omega) c2
          have l2 := dp_lt z2
          refine ⟨f', e, y1, by omega, fun _ => ?_⟩
          by_cases c3 : e = m
          · rw [c3, dp_head z2]
            have := dp_in z1 p (by omega) c2
            omega
          · exact y3 (by omega)
        · exact ih z2 p (by omega) h2
      · exact ih z1 p (by omega) h2
      · omega
theorem FO9_of {g D : Int → Int} {f : Nat} {z : Int} (hd : dp g D f 0 0 z) : ∀ {n : Nat} {p : Int}, 0 ≤ p → fo g n p z → FO9 g D z n p := by
  intro n
  induction n with
  | zero => intro p _ h; exact h
  | succ n ih =>
    intro p h0 h
    obtain ⟨m, f1, k1, t, h2⟩ := h
    have l1 := tm_lt t
    have l2 := fo_le h2
    obtain ⟨f', e, y1, y2, y3⟩ := dp_aft hd p h0 (by omega)
    have he := dp_tm_end t y1
    subst he
    have := dp_in hd p h0 (by omega)
    refine ⟨h0, by omega, m, f', f1, k1, t, y1, by omega, fun c => y3 ?_, ih (by omega) h2⟩
    cases n with
    | zero => exact absurd rfl c
    | succ n =>
      have := fo_le h2
      omega
