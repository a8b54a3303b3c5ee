/-! TAKING OUT what is no side of anything, again and again: pure -/
def sd9 (F G rt ps : Int → Int) (i : Int) : Nat → Int → Int
  | 0, _ => 0
  | n + 1, x => sd9 F G rt ps i n x + (if (rt n = n ∧ F n ≠ -1) ∧ ¬ (0 ≤ ps n ∧ ps n < i) then (if rt (F n) = x then 1 else 0) + (if rt (G n) = x then 1 else 0) else 0)
def nq9 (rt ps : Int → Int) : Nat → Int
  | 0 => 0
  | n + 1 => nq9 rt ps n + (if rt n = n ∧ ps n = -1 then 1 else 0)
section
variable {F G rt ps ps' : Int → Int} {i i' x v : Int}
theorem sd9_in : ∀ {n : Nat}, 0 ≤ sd9 F G rt ps i n x ∧ sd9 F G rt ps i n x ≤ 2 * n := by
  intro n
  induction n with
  | zero => exact ⟨Int.le_refl 0, Int.le_refl 0⟩
  | succ n ih =>
    show 0 ≤ sd9 F G rt ps i n x + _ ∧ sd9 F G rt ps i n x + _ ≤ _
    repeat' split
    all_goals omega
theorem sd9_cg : ∀ {n : Nat}, (∀ k, 0 ≤ k → k < (n : Int) → ((0 ≤ ps' k ∧ ps' k < i') ↔ (0 ≤ ps k ∧ ps k < i))) → sd9 F G rt ps' i' n x = sd9 F G rt ps i n x := by
  intro n
  induction n with
  | zero => intro _; rfl
  | succ n ih =>
    intro h
    show sd9 F G rt ps' i' n x + (if (rt n = n ∧ F n ≠ -1) ∧ ¬ (0 ≤ ps' n ∧ ps' n < i') then _ else 0) = sd9 F G rt ps i n x + (if (rt n = n ∧ F n ≠ -1) ∧ ¬ (0 ≤ ps n ∧ ps n < i) then _ else 0)
    rw [ih (fun k a b => h k a (by omega))]
    have := h n (by omega) (by omega)
    by_cases c : (rt n = n ∧ F n ≠ -1) ∧ ¬ (0 ≤ ps n ∧ ps n < i)
    · rw [if_pos c, if_pos ⟨c.1, fun z => c.2 (this.mp z)⟩]
    · rw [if_neg c, if_neg (fun z => c ⟨z.1, fun y => z.2 (this.mpr y)⟩)]
theorem sd9_take (hv : rt v = v) (hF : F v ≠ -1) (h0 : ¬ (0 ≤ ps v ∧ ps v < i)) (h1 : 0 ≤ ps v ∧ ps v < i') (ho : ∀ k, k ≠ v → ((0 ≤ ps k ∧ ps k < i') ↔ (0 ≤ ps k ∧ ps k < i))) : ∀ {n : Nat}, 0 ≤ v → v < n → sd9 F G rt ps i n x = sd9 F G rt ps i' n x + ((if rt (F v) = x then 1 else 0) + (if rt (G v) = x then 1 else 0)) := by
  intro n
  induction n with
  | zero => intro a b; omega
  | succ n ih =>
    intro a b
    show sd9 F G rt ps i n x + (if (rt n = n ∧ F n ≠ -1) ∧ ¬ (0 ≤ ps n ∧ ps n < i) then _ else 0) = sd9 F G rt ps i' n x + (if (rt n = n ∧ F n ≠ -1) ∧ ¬ (0 ≤ ps n ∧ ps n < i') then _ else 0) + _
    by_cases c : v = n
    · subst c
      rw [if_pos (show (rt n = n ∧ F n ≠ -1) ∧ ¬ (0 ≤ ps n ∧ ps n < i) from ⟨⟨hv, hF⟩, h0⟩), if_neg (show ¬ ((rt n = n ∧ F n ≠ -1) ∧ ¬ (0 ≤ ps n ∧ ps n < i')) from fun z => z.2 h1), sd9_cg (ps := ps) (ps' := ps) (i := i') (i' := i) (fun k a b => (ho k (by omega)).symm)]
      omega
    · rw [ih a (by omega)]
      have := ho n (by omega)
      by_cases c2 : (rt n = n ∧ F n ≠ -1) ∧ ¬ (0 ≤ ps n ∧ ps n < i)
      · rw [if_pos c2, if_pos (show (rt n = n ∧ F n ≠ -1) ∧ ¬ (0 ≤ ps n ∧ ps n < i') from ⟨c2.1, fun z => c2.2 (this.mp z)⟩)]; omega
      · rw [if_neg c2, if_neg (show ¬ ((rt n = n ∧ F n ≠ -1) ∧ ¬ (0 ≤ ps n ∧ ps n < i')) from fun z => c2 ⟨z.1, fun y => z.2 (this.mpr y)⟩)]; omega
theorem sd9_pos (hv : rt v = v) (hF : F v ≠ -1) (h0 : ¬ (0 ≤ ps v ∧ ps v < i)) (hx : rt (F v) = x ∨ rt (G v) = x) : ∀ {n : Nat}, 0 ≤ v → v < n → 1 ≤ sd9 F G rt ps i n x := by
  intro n
  induction n with
  | zero => intro a b; omega
  | succ n ih =>
    intro a b
    have s0 := sd9_in (F := F) (G := G) (rt := rt) (ps := ps) (i := i) (x := x) (n := n)
    show 1 ≤ sd9 F G rt ps i n x + (if (rt n = n ∧ F n ≠ -1) ∧ ¬ (0 ≤ ps n ∧ ps n < i) then (if rt (F n) = x then 1 else 0) + (if rt (G n) = x then 1 else 0) else 0)
    by_cases c : v = n
    · subst c
      rw [if_pos ⟨⟨hv, hF⟩, h0⟩]
      rcases hx with hx | hx <;> rw [if_pos hx] <;> split <;> omega
    · have := ih a (by omega)
      repeat' split
      all_goals omega
theorem sd9_ex : ∀ {n : Nat}, 0 < sd9 F G rt ps i n x → ∃ v : Int, 0 ≤ v ∧ v < n ∧ rt v = v ∧ F v ≠ -1 ∧ ¬ (0 ≤ ps v ∧ ps v < i) ∧ (rt (F v) = x ∨ rt (G v) = x) := by
  intro n
  induction n with
  | zero => intro h; exact absurd h (Int.lt_irrefl 0)
  | succ n ih =>
    intro h
    by_cases c : 0 < sd9 F G rt ps i n x
    · obtain ⟨v, v0, v1, h2⟩ := ih c
      exact ⟨v, v0, by omega, h2⟩
    · have h' : 0 < sd9 F G rt ps i n x + (if (rt n = n ∧ F n ≠ -1) ∧ ¬ (0 ≤ ps n ∧ ps n < i) then (if rt (F n) = x then 1 else 0) + (if rt (G n) = x then 1 else 0) else 0) := h
      by_cases c2 : (rt n = n ∧ F n ≠ -1) ∧ ¬ (0 ≤ ps n ∧ ps n < i)
      · rw [if_pos c2] at h'
        refine ⟨n, by omega, by omega, c2.1.1, c2.1.2, c2.2, ?_⟩
        by_cases c3 : rt (F n) = x
        · exact Or.inl c3
        · by_cases c4 : rt (G n) = x
          · exact Or.inr c4
          · rw [if_neg c3, if_neg c4] at h'; omega
      · rw [if_neg c2] at h'; omega
theorem nq9_nn : ∀ {n : Nat}, 0 ≤ nq9 rt ps n ∧ nq9 rt ps n ≤ n := by
  intro n
  induction n with
  | zero => exact ⟨Int.le_refl 0, Int.le_refl 0⟩
  | succ n ih =>
    show 0 ≤ nq9 rt ps n + _ ∧ nq9 rt ps n + _ ≤ _
    split <;> omega
theorem nq9_cg : ∀ {n : Nat}, (∀ k, 0 ≤ k → k < (n : Int) → (ps' k = -1 ↔ ps k = -1)) → nq9 rt ps' n = nq9 rt ps n := by
  intro n
  induction n with
  | zero => intro _; rfl
  | succ n ih =>
    intro h
    show nq9 rt ps' n + (if rt n = n ∧ ps' n = -1 then 1 else 0) = nq9 rt ps n + (if rt n = n ∧ ps n = -1 then 1 else 0)
    rw [ih (fun k a b => h k a (by omega))]
    have := h n (by omega) (by omega)
    by_cases c : rt n = n ∧ ps n = -1
    · rw [if_pos c, if_pos ⟨c.1, this.mpr c.2⟩]
    · rw [if_neg c, if_neg (fun z => c ⟨z.1, this.mp z.2⟩)]
theorem nq9_up {u w : Int} (hu : rt u = u) (h1 : ps u = -1) (hw : w ≠ -1) : ∀ {n : Nat}, 0 ≤ u → u < n → nq9 rt (updI ps u w) n + 1 = nq9 rt ps n := by
  intro n
  induction n with
  | zero => intro a b; omega
  | succ n ih =>
    intro a b
    show nq9 rt (updI ps u w) n + (if rt n = n ∧ updI ps u w n = -1 then 1 else 0) + 1 = nq9 rt ps n + (if rt n = n ∧ ps n = -1 then 1 else 0)
    by_cases c : u = n
    · subst c
      rw [updI_s, if_neg (fun z => hw z.2), if_pos ⟨hu, h1⟩, nq9_cg (ps := ps) (fun k a b => by rw [updI_n _ _ (by omega)])]
      omega
    · rw [updI_n _ _ (by omega)]
      have := ih a (by omega)
      omega
theorem nq9_pos (hv : rt v = v) (h0 : ps v = -1) : ∀ {n : Nat}, 0 ≤ v → v < n → 1 ≤ nq9 rt ps n := by
  intro n
  induction n with
  | zero => intro a b; omega
  | succ n ih =>
    intro a b
    have s0 := nq9_nn (rt := rt) (ps := ps) (n := n)
    show 1 ≤ nq9 rt ps n + (if rt n = n ∧ ps n = -1 then 1 else 0)
    by_cases c : v = n
    · subst c; rw [if_pos ⟨hv, h0⟩]; omega
    · have := ih a (by omega)
      split <;> omega
theorem nq9_ex : ∀ {n : Nat}, 0 < nq9 rt ps n → ∃ v : Int, 0 ≤ v ∧ v < n ∧ rt v = v ∧ ps v = -1 := by
  intro n
  induction n with
  | zero => intro h; exact absurd h (Int.lt_irrefl 0)
  | succ n ih =>
    intro h
    by_cases c : 0 < nq9 rt ps n
    · obtain ⟨v, v0, v1, h2⟩ := ih c
      exact ⟨v, v0, by omega, h2⟩
    · have h' : 0 < nq9 rt ps n + (if rt n = n ∧ ps n = -1 then 1 else 0) := h
      by_cases c2 : rt n = n ∧ ps n = -1
      · exact ⟨n, by omega, by omega, c2⟩
      · rw [if_neg c2] at h'; omega
end
/-- i are taken of q that are laid in the queue; W is still to be taken off -/
def KH (K : Int) (F G rt : Int → Int) (b i q : Int) (ps m qu W : Int → Int) : Prop := (∀ j, 0 ≤ j → j < q → (0 ≤ qu j ∧ qu j < K) ∧ rt (qu j) = qu j ∧ ps (qu j) = j) ∧ (∀ x, 0 ≤ x → x < K → ps x = -1 ∨ (0 ≤ ps x ∧ ps x < q ∧ qu (ps x) = x)) ∧ nq9 rt ps K.toNat + q = nq9 rt (fun _ => -1) K.toNat ∧ (∀ x, 0 ≤ x → x < K → m x = sd9 F G rt ps i K.toNat x + W x ∧ 0 ≤ W x ∧ W x ≤ 2) ∧ (∀ x, 0 ≤ x → x < b → x < K → rt x = x → ps x = -1 → m x ≠ 0) ∧ (∀ x p, 0 ≤ x → x < K → 0 ≤ ps x → 0 ≤ p → p < K → rt p = p → F p ≠ -1 → (rt (F p) = x ∨ rt (G p) = x) → 0 ≤ ps p ∧ ps p < i ∧ ps p < ps x) ∧ (∀ x, 0 ≤ x → x < K → 0 < W x → ps x = -1) ∧ 0 ≤ i ∧ i ≤ q
section
variable {K : Int} {F G rt : Int → Int} {b i q : Int} {ps m qu W : Int → Int}
theorem KH_beg (h : ∀ x, 0 ≤ x → x < K → m x = sd9 F G rt (fun _ => -1) 0 K.toNat x) : KH K F G rt 0 0 0 (fun _ => -1) m qu (fun _ => 0) := ⟨fun j a b => by omega, fun x a b => Or.inl rfl, by omega, fun x a b => ⟨by rw [h x a b]; exact (Int.add_zero _).symm, Int.le_refl _, show (0 : Int) ≤ 2 by omega⟩, fun x a b => by omega, fun x p a b c => absurd c (show ¬ (0 : Int) ≤ -1 by omega), fun x a b c => absurd c (Int.lt_irrefl 0), Int.le_refl _, Int.le_refl _⟩
theorem KH_b {b' : Int} (h : KH K F G rt b i q ps m qu W) (hb : ∀ x, 0 ≤ x → x < b' → x < K → rt x = x → ps x = -1 → m x ≠ 0) : KH K F G rt b' i q ps m qu W := ⟨h.1, h.2.1, h.2.2.1, h.2.2.2.1, hb, h.2.2.2.2.2⟩
theorem KH_q (h : KH K F G rt b i q ps m qu W) {u : Int} (u0 : 0 ≤ u) (u1 : u < K) (ur : rt u = u) (up : ps u = -1) : q < K := by
  obtain ⟨_, _, h3, _⟩ := h
  have := nq9_pos ur up (n := K.toNat) u0 (by omega)
  have := nq9_nn (rt := rt) (ps := fun _ => -1) (n := K.toNat)
  omega
/-- one more is laid in the queue -/
theorem KH_enq (h : KH K F G rt b i q ps m qu W) {u : Int} (u0 : 0 ≤ u) (u1 : u < K) (ur : rt u = u) (up : ps u = -1) (um : m u = 0) : KH K F G rt b i (q + 1) (updI ps u q) m (updI qu q u) W := by
  obtain ⟨h1, h2, h3, h4, h5, h6, h7, h8, h9⟩ := h
  have e4 := h4 u u0 u1
  have s0 := sd9_in (F := F) (G := G) (rt := rt) (ps := ps) (i := i) (x := u) (n := K.toNat)
  have nu := nq9_up (rt := rt) (ps := ps) (w := q) ur up (by omega) (n := K.toNat) u0 (by omega)
  have es : ∀ x, sd9 F G rt (updI ps u q) i K.toNat x = sd9 F G rt ps i K.toNat x := fun x => sd9_cg (fun k a b => by
    by_cases c : k = u
    · rw [c, updI_s, up]; omega
    · rw [updI_n _ _ c])
  refine ⟨fun j a b => ?_, fun x a b => ?_, by omega, fun x a b => by rw [es]; exact h4 x a b, fun x a b c d e => ?_, fun x p a b c p0 p1 pr pf px => ?_, fun x a b c => ?_, h8, by omega⟩
  · by_cases c : j = q
    · rw [c, updI_s, updI_s]; exact ⟨⟨u0, u1⟩, ur, rfl⟩
    · rw [updI_n qu _ c]
      obtain ⟨a1, a2, a3⟩ := h1 j a (by omega)
      have : qu j ≠ u := fun z => by rw [z] at a3; omega
      rw [updI_n _ _ this]
      exact ⟨a1, a2, a3⟩
  · by_cases c : x = u
    · right; rw [c, updI_s, updI_s]; exact ⟨by omega, by omega, rfl⟩
    · rw [updI_n _ _ c]
      rcases h2 x a b with z | ⟨z1, z2, z3⟩
      · exact Or.inl z
      · right; rw [updI_n _ _ (by omega)]; exact ⟨z1, by omega, z3⟩
  · by_cases cx : x = u
    · rw [cx, updI_s] at e; omega
    · rw [updI_n _ _ cx] at e; exact h5 x a b c d e
  · by_cases cx : x = u
    · have hp : 0 ≤ ps p ∧ ps p < i := by
        refine Classical.byContradiction (fun z => ?_)
        have := sd9_pos (F := F) (G := G) pr pf z px (n := K.toNat) p0 (by omega)
        rw [cx] at this
        omega
      have : p ≠ u := fun z => by rw [z] at hp; omega
      rw [cx, updI_s, updI_n _ _ this]
      omega
    · rw [updI_n _ _ cx] at c ⊢
      have := h6 x p a b c p0 p1 pr pf px
      have : p ≠ u := fun z => by rw [z] at this; omega
      rw [updI_n _ _ this]
      omega
  · have := h7 x a b c
    by_cases cx : x = u
    · have e5 := h4 u u0 u1
      rw [cx] at c
      omega
    · rw [updI_n _ _ cx]; exact this
/-- the next is taken -/
theorem KH_one (h : KH K F G rt b i q ps m qu (fun _ => 0)) (hi : i < q) (hF : F (qu i) = -1) : KH K F G rt b (i + 1) q ps m qu (fun _ => 0) := by
  obtain ⟨h1, h2, h3, h4, h5, h6, h7, h8, h9⟩ := h
  obtain ⟨v1, v2, v3⟩ := h1 i h8 hi
  have es : ∀ x, ∀ n : Nat, (n : Int) ≤ K → sd9 F G rt ps (i + 1) n x = sd9 F G rt ps i n x := fun x n => by
    induction n with
    | zero => intro _; rfl
    | succ n ih =>
      intro hn
      show sd9 F G rt ps (i + 1) n x + (if (rt n = n ∧ F n ≠ -1) ∧ ¬ (0 ≤ ps n ∧ ps n < i + 1) then _ else 0) = sd9 F G rt ps i n x + (if (rt n = n ∧ F n ≠ -1) ∧ ¬ (0 ≤ ps n ∧ ps n < i) then _ else 0)
      rw [ih (by omega)]
      by_cases c : qu i = n
      · rw [← c, if_neg (fun z => z.1.2 hF), if_neg (fun z => z.1.2 hF)]
      · have : ps n ≠ i := fun z => by
          rcases h2 n (by omega) (by omega) with y | ⟨_, _, y⟩
          · omega
          · rw [z] at y; exact c y
        have e : (0 ≤ ps n ∧ ps n < i + 1) ↔ (0 ≤ ps n ∧ ps n < i) := by omega
        by_cases c2 : (rt n = n ∧ F n ≠ -1) ∧ ¬ (0 ≤ ps n ∧ ps n < i)
        · rw [if_pos c2, if_pos ⟨c2.1, fun z => c2.2 (e.mp z)⟩]
        · rw [if_neg c2, if_neg (fun z => c2 ⟨z.1, fun y => z.2 (e.mpr y)⟩)]
  refine ⟨h1, h2, h3, fun x a b => ?_, h5, fun x p a b c p0 p1 pr pf px => ?_, h7, by omega, by omega⟩
  · rw [es x K.toNat (by omega)]; exact h4 x a b
  · have := h6 x p a b c p0 p1 pr pf px; omega
theorem KH_two (h : KH K F G rt b i q ps m qu (fun _ => 0)) (hi : i < q) (hF : F (qu i) ≠ -1) : KH K F G rt b (i + 1) q ps m qu (fun x => (if rt (F (qu i)) = x then 1 else 0) + (if rt (G (qu i)) = x then 1 else 0)) := by
  obtain ⟨h1, h2, h3, h4, h5, h6, h7, h8, h9⟩ := h
  obtain ⟨v1, v2, v3⟩ := h1 i h8 hi
  have es : ∀ x, sd9 F G rt ps i K.toNat x = sd9 F G rt (fun k => if k < 0 ∨ K ≤ k then -1 else ps k) i K.toNat x := fun x => (sd9_cg (fun k a b => by rw [if_neg (by omega)])).symm
  have es' : ∀ x, sd9 F G rt ps (i + 1) K.toNat x = sd9 F G rt (fun k => if k < 0 ∨ K ≤ k then -1 else ps k) (i + 1) K.toNat x := fun x => (sd9_cg (fun k a b => by rw [if_neg (by omega)])).symm
  have pv : (if qu i < 0 ∨ K ≤ qu i then -1 else ps (qu i)) = i := by rw [if_neg (by omega)]; exact v3
  refine ⟨h1, h2, h3, fun x a b => ?_, h5, fun x p a b c p0 p1 pr pf px => ?_, fun x a b c => ?_, by omega, by omega⟩
  · have := sd9_take (F := F) (G := G) (rt := rt) (ps := fun k => if k < 0 ∨ K ≤ k then -1 else ps k) (i := i) (i' := i + 1) (x := x) v2 hF (by rw [pv]; omega) (by rw [pv]; omega) (fun k ck => by
      by_cases c : k < 0 ∨ K ≤ k
      · rw [if_pos c]; omega
      · rw [if_neg c]
        rcases h2 k (by omega) (by omega) with z | ⟨_, _, z⟩
        · omega
        · have : ps k ≠ i := fun y => by rw [y] at z; exact ck z.symm
          omega) (n := K.toNat) v1.1 (by omega)
    have e4 : m x = sd9 F G rt ps i K.toNat x + 0 := (h4 x a b).1
    rw [es']
    rw [es] at e4
    refine ⟨?_, ?_, ?_⟩
    · show m x = _ + ((if rt (F (qu i)) = x then 1 else 0) + (if rt (G (qu i)) = x then 1 else 0))
      omega
    · show 0 ≤ (if rt (F (qu i)) = x then (1 : Int) else 0) + (if rt (G (qu i)) = x then 1 else 0)
      split <;> split <;> omega
    · show (if rt (F (qu i)) = x then (1 : Int) else 0) + (if rt (G (qu i)) = x then 1 else 0) ≤ 2
      split <;> split <;> omega
  · have := h6 x p a b c p0 p1 pr pf px; omega
  · replace c : 0 < (if rt (F (qu i)) = x then (1 : Int) else 0) + (if rt (G (qu i)) = x then 1 else 0) := c
    have hx : rt (F (qu i)) = x ∨ rt (G (qu i)) = x := by
      by_cases c3 : rt (F (qu i)) = x
      · exact Or.inl c3
      · by_cases c4 : rt (G (qu i)) = x
        · exact Or.inr c4
        · rw [if_neg c3, if_neg c4] at c; omega
    rcases h2 x a b with z | ⟨z, _⟩
    · exact z
    · have := h6 x (qu i) a b z v1.1 v1.2 v2 hF hx
      omega
/-- one side less -/
theorem KH_off (h : KH K F G rt b i q ps m qu W) {u : Int} (u0 : 0 ≤ u) (u1 : u < K) (hw : 0 < W u) (hm : m u - 1 ≠ 0) : KH K F G rt b i q ps (updI m u (m u - 1)) qu (updI W u (W u - 1)) := by
  obtain ⟨h1, h2, h3, h4, h5, h6, h7, h8, h9⟩ := h
  refine ⟨h1, h2, h3, fun x a b => ?_, fun x a b c d e => ?_, h6, fun x a b c => ?_, h8, h9⟩
  · have := h4 x a b
    by_cases cx : x = u
    · subst cx; rw [updI_s, updI_s]; omega
    · rw [updI_n _ _ cx, updI_n _ _ cx]; exact this
  · by_cases cx : x = u
    · subst cx; rw [updI_s]; exact hm
    · rw [updI_n _ _ cx]; exact h5 x a b c d e
  · by_cases cx : x = u
    · subst cx; exact h7 x a b hw
    · rw [updI_n _ _ cx] at c; exact h7 x a b c
theorem KH_rel (h : KH K F G rt b i q ps m qu W) {u : Int} (u0 : 0 ≤ u) (u1 : u < K) (ur : rt u = u) (hw : 0 < W u) (hm : m u - 1 = 0) : KH K F G rt b i (q + 1) (updI ps u q) (updI m u (m u - 1)) (updI qu q u) (updI W u (W u - 1)) := by
  have hk := h
  obtain ⟨h1, h2, h3, h4, h5, h6, h7, h8, h9⟩ := h
  have up := h7 u u0 u1 hw
  have h0 : KH K F G rt (min b 0) i q ps (updI m u (m u - 1)) qu (updI W u (W u - 1)) := by
    refine ⟨h1, h2, h3, fun x a b => ?_, fun x a b c d e => by omega, h6, fun x a b c => ?_, h8, h9⟩
    · have := h4 x a b
      by_cases cx : x = u
      · subst cx; rw [updI_s, updI_s]; omega
      · rw [updI_n _ _ cx, updI_n _ _ cx]; exact this
    · by_cases cx : x = u
      · subst cx; exact h7 x a b hw
      · rw [updI_n _ _ cx] at c; exact h7 x a b c
  refine KH_b (KH_enq h0 u0 u1 ur up (by rw [updI_s]; exact hm)) (fun x a b c d e => ?_)
  by_cases cx : x = u
  · rw [cx, updI_s] at e; omega
  · rw [updI_n _ _ cx] at e ⊢; exact h5 x a b c d e
theorem KH_circ (h : KH K F G rt K q q ps m qu (fun _ => 0)) (hq : q < nq9 rt (fun _ => -1) K.toNat) (hR : ∀ k, 0 ≤ k → k < K → F k ≠ -1 → (0 ≤ F k ∧ F k < K) ∧ (0 ≤ G k ∧ G k < K)) : ∀ t, ¬ SOL K (-1) F G rt t := by
  obtain ⟨h1, h2, h3, h4, h5, h6, h7, h8, h9⟩ := h
  obtain ⟨v, v0, v1, v2, v3⟩ := nq9_ex (rt := rt) (ps := ps) (n := K.toNat) (by omega)
  intro t st
  refine sol_circle (S := fun x => (0 ≤ x ∧ x < K) ∧ rt x = x ∧ ps x = -1) (x0 := v) ⟨⟨v0, by omega⟩, v2, v3⟩ (fun x ⟨x0, x1, x2⟩ => ⟨x0, ?_⟩) hR st
  have e4 := h4 x x0.1 x0.2
  have e5 := h5 x x0.1 x0.2 x0.2 x1 x2
  have s0 := sd9_in (F := F) (G := G) (rt := rt) (ps := ps) (i := q) (x := x) (n := K.toNat)
  obtain ⟨y, y0, y1, y2, y3, y4, y5⟩ := sd9_ex (F := F) (G := G) (rt := rt) (ps := ps) (i := q) (x := x) (n := K.toNat) (by have : m x = _ + 0 := e4.1; omega)
  refine ⟨y, ⟨⟨y0, by omega⟩, y2, ?_⟩, y3, y5⟩
  rcases h2 y y0 (by omega) with z | z
  · exact z
  · omega
theorem KH_rk (h : KH K F G rt K q q ps m qu (fun _ => 0)) (hq : nq9 rt (fun _ => -1) K.toNat ≤ q) (hr : ∀ k, 0 ≤ k → k < K → 0 ≤ rt k ∧ rt k < K ∧ rt (rt k) = rt k) (hR : ∀ k, 0 ≤ k → k < K → F k ≠ -1 → (0 ≤ F k ∧ F k < K) ∧ (0 ≤ G k ∧ G k < K)) : ∃ h, RK K (-1) F G rt h := by
  obtain ⟨h1, h2, h3, h4, h5, h6, h7, h8, h9⟩ := h
  have hz : ∀ x, 0 ≤ x → x < K → rt x = x → 0 ≤ ps x ∧ ps x < q := fun x a b c => by
    rcases h2 x a b with z | ⟨z1, z2, _⟩
    · have := nq9_pos c z (n := K.toNat) a (by omega)
      omega
    · exact ⟨z1, z2⟩
  refine ⟨fun x => (q - ps x).toNat, fun k a b c d => ?_⟩
  obtain ⟨r1, r2⟩ := hR k a b d
  have f1 := hr (F k) r1.1 r1.2
  have f2 := hr (G k) r2.1 r2.2
  have z1 := hz _ f1.1 f1.2.1 f1.2.2
  have z2 := hz _ f2.1 f2.2.1 f2.2.2
  have y1 := h6 _ k f1.1 f1.2.1 z1.1 a b c d (Or.inl rfl)
  have y2 := h6 _ k f2.1 f2.2.1 z2.1 a b c d (Or.inr rfl)
  show (q - ps (rt (F k))).toNat < (q - ps k).toNat ∧ (q - ps (rt (G k))).toNat < (q - ps k).toNat
  omega
end
/-- the sides, counted -/
theorem upd2 {m : Int → Int} {u v x : Int} : updI (updI m u (m u + 1)) v (updI m u (m u + 1) v + 1) x = m x + ((if u = x then 1 else 0) + (if v = x then 1 else 0)) := by
  by_cases c1 : v = x
  · subst c1
    rw [updI_s, if_pos rfl]
    by_cases c2 : u = v
    · subst c2; rw [updI_s, if_pos rfl]; omega
    · rw [updI_n _ _ (fun z => c2 z.symm), if_neg c2]; omega
  · rw [updI_n _ _ (fun z => c1 z.symm), if_neg c1]
    by_cases c2 : u = x
    · subst c2; rw [updI_s, if_pos rfl]; omega
    · rw [updI_n _ _ (fun z => c2 z.symm), if_neg c2]; omega
section
variable {K : Int} {F G rt : Int → Int} {b i q : Int} {ps m qu W : Int → Int}
theorem cs9_yes (hm : ∀ x, 0 ≤ x → x < K → m x = sd9 F G rt (fun _ => -1) 0 i.toNat x) (h0 : 0 ≤ i) (h1 : rt i = i) (h2 : F i ≠ -1) : ∀ x, 0 ≤ x → x < K → updI (updI m (rt (F i)) (m (rt (F i)) + 1)) (rt (G i)) (updI m (rt (F i)) (m (rt (F i)) + 1) (rt (G i)) + 1) x = sd9 F G rt (fun _ => -1) 0 (i + 1).toNat x := fun x a b => by
  rw [upd2, hm x a b, show (i + 1).toNat = i.toNat + 1 by omega]
  show _ = sd9 F G rt (fun _ => -1) 0 i.toNat x + (if (rt (i.toNat : Int) = (i.toNat : Int) ∧ F (i.toNat : Int) ≠ -1) ∧ ¬ ((0 : Int) ≤ -1 ∧ (-1 : Int) < 0) then (if rt (F (i.toNat : Int)) = x then 1 else 0) + (if rt (G (i.toNat : Int)) = x then 1 else 0) else 0)
  rw [show ((i.toNat : Nat) : Int) = i by omega, if_pos (show (rt i = i ∧ F i ≠ -1) ∧ ¬ ((0 : Int) ≤ -1 ∧ (-1 : Int) < 0) from ⟨⟨h1, h2⟩, by omega⟩)]
theorem cs9_no (hm : ∀ x, 0 ≤ x → x < K → m x = sd9 F G rt (fun _ => -1) 0 i.toNat x) (h0 : 0 ≤ i) (h1 : ¬ (rt i = i ∧ F i ≠ -1)) : ∀ x, 0 ≤ x → x < K → m x = sd9 F G rt (fun _ => -1) 0 (i + 1).toNat x := fun x a b => by
  rw [hm x a b, show (i + 1).toNat = i.toNat + 1 by omega]
  show _ = sd9 F G rt (fun _ => -1) 0 i.toNat x + (if (rt (i.toNat : Int) = (i.toNat : Int) ∧ F (i.toNat : Int) ≠ -1) ∧ ¬ ((0 : Int) ≤ -1 ∧ (-1 : Int) < 0) then (if rt (F (i.toNat : Int)) = x then 1 else 0) + (if rt (G (i.toNat : Int)) = x then 1 else 0) else 0)
  rw [show ((i.toNat : Nat) : Int) = i by omega, if_neg (show ¬ ((rt i = i ∧ F i ≠ -1) ∧ ¬ ((0 : Int) ≤ -1 ∧ (-1 : Int) < 0)) from fun z => h1 z.1)]
  omega
theorem nr9_yes (h0 : 0 ≤ i) (h1 : rt i = i) : nq9 rt (fun _ => -1) (i + 1).toNat = nq9 rt (fun _ => -1) i.toNat + 1 := by
  rw [show (i + 1).toNat = i.toNat + 1 by omega]
  show nq9 rt (fun _ => -1) i.toNat + (if rt (i.toNat : Int) = (i.toNat : Int) ∧ (-1 : Int) = -1 then 1 else 0) = _
  rw [show ((i.toNat : Nat) : Int) = i by omega, if_pos ⟨h1, rfl⟩]
theorem nr9_no (h0 : 0 ≤ i) (h1 : rt i ≠ i) : nq9 rt (fun _ => -1) (i + 1).toNat = nq9 rt (fun _ => -1) i.toNat := by
  rw [show (i + 1).toNat = i.toNat + 1 by omega]
  show nq9 rt (fun _ => -1) i.toNat + (if rt (i.toNat : Int) = (i.toNat : Int) ∧ (-1 : Int) = -1 then 1 else 0) = _
  rw [show ((i.toNat : Nat) : Int) = i by omega, if_neg (fun z => h1 z.1)]
  omega
def wA (u v : Int) : Int → Int := fun x => (if u = x then 1 else 0) + (if v = x then 1 else 0)
def wB (v : Int) : Int → Int := fun x => if v = x then 1 else 0
theorem wA_u {u v : Int} : 0 < wA u v u := by
  unfold wA; rw [if_pos rfl]; split <;> omega
theorem wB_v {v : Int} : 0 < wB v v := by
  unfold wB; rw [if_pos rfl]; omega
theorem wA_off {u v : Int} : updI (wA u v) u (wA u v u - 1) = wB v := by
  funext x
  by_cases c : x = u
  · subst c; rw [updI_s]; unfold wA wB; rw [if_pos rfl]; omega
  · rw [updI_n _ _ c]; unfold wA wB; rw [if_neg (fun z => c z.symm)]; omega
theorem wB_off {v : Int} : updI (wB v) v (wB v v - 1) = fun _ => 0 := by
  funext x
  by_cases c : x = v
  · subst c; rw [updI_s]; unfold wB; rw [if_pos rfl]; rfl
  · rw [updI_n _ _ c]; unfold wB; rw [if_neg (fun z => c z.symm)]
theorem KH_m (h : KH K F G rt b i q ps m qu W) {u : Int} (u0 : 0 ≤ u) (u1 : u < K) : 0 ≤ m u ∧ m u ≤ 2 * K + 2 := by
  have e := h.2.2.2.1 u u0 u1
  have s0 := sd9_in (F := F) (G := G) (rt := rt) (ps := ps) (i := i) (x := u) (n := K.toNat)
  omega
theorem KH_R (h : KH K F G rt b i q ps m qu W) : q ≤ nq9 rt (fun _ => -1) K.toNat ∧ nq9 rt (fun _ => -1) K.toNat ≤ K.toNat := by
  obtain ⟨_, _, h3, _⟩ := h
  have := nq9_nn (rt := rt) (ps := ps) (n := K.toNat)
  have := nq9_nn (rt := rt) (ps := fun _ => -1) (n := K.toNat)
  omega
theorem KH_w {u : Int} (h : KH K F G rt b i q ps m qu W) (u0 : 0 ≤ u) (u1 : u < K) (ur : rt u = u) (hw : 0 < W u) : q < K := KH_q h u0 u1 ur (h.2.2.2.2.2.2.1 u u0 u1 hw)
end
