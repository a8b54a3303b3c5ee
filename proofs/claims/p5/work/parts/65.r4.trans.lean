/-! THE CLASS'S READER: what a token does: pure -/
section
variable {b : Int → Int} {n : Int} {S : PS} {ps : List Int} {i i' x : Int} {s s' : Nat → Int} {a a' : Nat → Int → Int}
theorem rwR_eq {g g' : Int → Int} : ∀ (L : List Lev) (ps : List Int), (∀ j, 0 ≤ j → j < ((stk L ps).length : Int) → g' j = g j) → rwR g L ps → rwR g' L ps
  | [], _, _, _ => trivial
  | x :: r, ps, h, h1 => by
    have hl := stk_len (x :: r) ps
    have hl1 : nP (x :: r) = (if x.1 = 0 then 1 else 0) + nP r := rfl
    refine ⟨fun z => ?_, rwR_eq r _ (fun j j0 j1 => h j j0 ?_) h1.2⟩
    · rw [h _ (by omega) (by have := stk_len r ps; rw [hl1, if_pos z] at hl; omega)]
      exact h1.1 z
    · have := stk_len r (ps.drop x.1.toNat)
      have e : (ps.drop x.1.toNat).length ≤ ps.length := by rw [List.length_drop]; omega
      have : 0 ≤ (if x.1 = 0 then (1 : Int) else 0) := by split <;> omega
      omega
theorem CR_len (h : CR b n S ps i s a) : s 7 = (S.2.1.length : Int) + nP S.1 := by
  obtain ⟨_, _, ⟨h1, _⟩, _, _, ⟨h2, _⟩, _⟩ := h
  have h3 := stk_len S.1 (ps.drop S.2.2.2.toNat)
  rw [h1, h2, List.length_append, List.length_map]
  have e : (ps.take S.2.2.2.toNat).length + (ps.drop S.2.2.2.toNat).length = ps.length := by rw [← List.length_append, List.take_append_drop]
  omega
/-- the row that stands open -/
theorem CR_row (h : CR b n S ps i s a) : ∃ y r, S.1 = y :: r ∧ itm S.1 = itm r ++ -y.2.1 :: y.2.2 ∧ s 6 = ((itm r).length : Int) ∧ a 3 (s 6) = -y.2.1 ∧ -i ≤ -y.2.1 ∧ 0 ≤ s 6 ∧ s 6 < s 5 ∧ s 5 ≤ 1 + i := by
  obtain ⟨⟨c1, c2⟩, c3, _, _, _, _, hw, _, hl, hv, _⟩ := h
  cases hL : S.1 with
  | nil => rw [hL] at hw; exact hw.elim
  | cons y r =>
    rw [hL] at c1 c2 c3 hl hv
    have e : itm (y :: r) = itm r ++ -y.2.1 :: y.2.2 := rfl
    have c3' : s 6 = ((itm r).length : Int) := c3
    refine ⟨y, r, rfl, e, c3', ?_, (hv (-y.2.1) (by rw [e]; simp)).1, by omega, ?_, by omega⟩
    · rw [c3']; exact rg_get c2 e
    · rw [c1, c3', e, List.length_append, List.length_cons]; omega
theorem CR_take (h : CR b n S ps i s a) (h8 : S.2.2.1 = 0) (hi : i < i') (hx : -i' ≤ x ∧ x ≤ 1020) (e5 : s' 5 = s 5 + 1) (g : ∀ j, j ≠ 5 → s' j = s j) (p : a' 3 = updI (updI (a 3) (s 6) (a 3 (s 6) - 1)) (s 5) x) (q : ∀ j, j ≠ 3 → a' j = a j) : CR b n (pAdd (pPart S.1) x, S.2.1, 0, 0) ps i' s' a' := by
  obtain ⟨y, r, hL, he, r6, r3, rv, _, _, _⟩ := CR_row h
  obtain ⟨⟨c1, c2⟩, c3, ⟨c4, c5⟩, c6, c7, c8, hw, ⟨k0, k1, k2, k3, k4⟩, hl, hv, h40⟩ := h
  have hc : S.2.2.2 = 0 := k1 h8
  rw [hc] at c4 c5 c7
  have e2 : itm (pPart S.1) = itm r ++ (-y.2.1 - 1) :: y.2.2 := by rw [hL]; exact itm_part
  have ln : (itm (pPart S.1)).length = (itm S.1).length := by rw [e2, he]; simp
  have e3 : itm (pAdd (pPart S.1) x) = itm (pPart S.1) ++ [x] := itm_add' (pPart_ne (wfL_ne hw))
  have g1 : rg (updI (a 3) (s 6) (a 3 (s 6) - 1)) (itm (pPart S.1)).length 0 = itm (pPart S.1) := by
    rw [r3, r6, e2]
    exact rg_put c2 he
  refine ⟨⟨?_, ?_⟩, ?_, ⟨?_, ?_⟩, ?_, ?_, c8, ?_, ⟨Int.le_refl 0, fun _ => rfl, fun z => absurd (show (0 : Int) = 2 from z) (by decide), Int.le_refl 0, (by decide : (0 : Int) ≤ 2)⟩, ?_, ?_, ?_⟩
  · show s' 5 = ((itm (pAdd (pPart S.1) x)).length : Int)
    rw [e3, List.length_append, List.length_singleton, e5, c1]
    omega
  · show rg (a' 3) (itm (pAdd (pPart S.1) x)).length 0 = itm (pAdd (pPart S.1) x)
    rw [e3, p]
    exact rg_ext g1 (by omega) x
  · show s' 6 = row (pAdd (pPart S.1) x)
    rw [row_add, row_part, g 6 (by decide)]
    exact c3
  · show s' 7 = ((ps.take 0 ++ stk (pAdd (pPart S.1) x) (ps.drop 0)).length : Int)
    rw [stk_add, stk_part, g 7 (by decide)]
    exact c4
  · show rg (a' 4) (ps.take 0 ++ stk (pAdd (pPart S.1) x) (ps.drop 0)).length 0 = (ps.take 0 ++ stk (pAdd (pPart S.1) x) (ps.drop 0)).reverse
    rw [stk_add, stk_part, q 4 (by decide)]
    exact c5
  · show s' 8 = 0
    rw [g 8 (by decide), c6, h8]
  · show rwR (a' 5) (pAdd (pPart S.1) x) (ps.drop 0)
    rw [q 5 (by decide)]
    exact rwR_add (rwR_part c7)
  · show wfL (pAdd (pPart S.1) x)
    rw [hL] at hw ⊢
    exact hw
  · show ((itm (pAdd (pPart S.1) x)).length : Int) ≤ 1 + i'
    rw [e3, List.length_append, List.length_singleton]
    omega
  · intro v hv'
    rw [show (pAdd (pPart S.1) x, S.2.1, (0 : Int), (0 : Int)).1 = pAdd (pPart S.1) x from rfl, e3, e2] at hv'
    have hy : ∀ u ∈ itm r ++ -y.2.1 :: y.2.2, -i ≤ u ∧ u ≤ 1020 := by rw [← he]; exact hv
    rcases List.mem_append.mp hv' with h9 | h9
    · rcases List.mem_append.mp h9 with h9 | h9
      · have := hy v (List.mem_append_left _ h9); omega
      · rcases List.mem_cons.mp h9 with h9 | h9
        · have := hy (-y.2.1) (by simp); omega
        · have := hy v (List.mem_append_right _ (List.mem_cons_of_mem _ h9)); omega
    · rw [List.mem_singleton.mp h9]; exact hx
  · rw [g 7 (by decide)]; exact h40
theorem CR_lam (h : CR b n S ps i s a) (h8 : S.2.2.1 = 0) (hi : i < i') (e8 : s' 8 = 1) (g : ∀ j, j ≠ 8 → s' j = s j) (p : a' 3 = updI (a 3) (s 6) (a 3 (s 6) - 1)) (q : ∀ j, j ≠ 3 → a' j = a j) : CR b n (pPart S.1, S.2.1, 1, 0) ps i' s' a' := by
  obtain ⟨y, r, hL, he, r6, r3, rv, _, _, _⟩ := CR_row h
  obtain ⟨⟨c1, c2⟩, c3, ⟨c4, c5⟩, c6, c7, c8, hw, ⟨k0, k1, k2, k3, k4⟩, hl, hv, h40⟩ := h
  have hc : S.2.2.2 = 0 := k1 h8
  rw [hc] at c4 c5 c7
  have e2 : itm (pPart S.1) = itm r ++ (-y.2.1 - 1) :: y.2.2 := by rw [hL]; exact itm_part
  have ln : (itm (pPart S.1)).length = (itm S.1).length := by rw [e2, he]; simp
  have g1 : rg (updI (a 3) (s 6) (a 3 (s 6) - 1)) (itm (pPart S.1)).length 0 = itm (pPart S.1) := by
    rw [r3, r6, e2]
    exact rg_put c2 he
  refine ⟨⟨?_, ?_⟩, ?_, ⟨?_, ?_⟩, e8, ?_, c8, ?_, ⟨Int.le_refl 0, fun _ => rfl, fun z => absurd (show (1 : Int) = 2 from z) (by decide), (by decide : (0 : Int) ≤ 1), (by decide : (1 : Int) ≤ 2)⟩, ?_, ?_, ?_⟩
  · show s' 5 = ((itm (pPart S.1)).length : Int)
    rw [ln, g 5 (by decide), c1]
  · show rg (a' 3) (itm (pPart S.1)).length 0 = itm (pPart S.1)
    rw [p]
    exact g1
  · show s' 6 = row (pPart S.1)
    rw [row_part, g 6 (by decide)]
    exact c3
  · show s' 7 = ((ps.take 0 ++ stk (pPart S.1) (ps.drop 0)).length : Int)
    rw [stk_part, g 7 (by decide)]
    exact c4
  · show rg (a' 4) (ps.take 0 ++ stk (pPart S.1) (ps.drop 0)).length 0 = (ps.take 0 ++ stk (pPart S.1) (ps.drop 0)).reverse
    rw [stk_part, q 4 (by decide)]
    exact c5
  · show rwR (a' 5) (pPart S.1) (ps.drop 0)
    rw [q 5 (by decide)]
    exact rwR_part c7
  · show wfL (pPart S.1)
    rw [hL] at hw ⊢
    exact hw
  · show ((itm (pPart S.1)).length : Int) ≤ 1 + i'
    omega
  · intro v hv'
    rw [show (pPart S.1, S.2.1, (1 : Int), (0 : Int)).1 = pPart S.1 from rfl, e2] at hv'
    have hy : ∀ u ∈ itm r ++ -y.2.1 :: y.2.2, -i ≤ u ∧ u ≤ 1020 := by rw [← he]; exact hv
    rcases List.mem_append.mp hv' with h9 | h9
    · have := hy v (List.mem_append_left _ h9); omega
    · rcases List.mem_cons.mp h9 with h9 | h9
      · have := hy (-y.2.1) (by simp); omega
      · have := hy v (List.mem_append_right _ (List.mem_cons_of_mem _ h9)); omega
  · rw [g 7 (by decide)]; exact h40
/-- the stack of open names with one more -/
theorem rg_psh {g : Int → Int} {l : List Int} {m v : Int} (h : rg g l.length 0 = l.reverse) (hm : m = l.length) : rg (updI g m v) (v :: l).length 0 = (v :: l).reverse := by
  have h1 : rg g l.reverse.length 0 = l.reverse := by rw [List.length_reverse]; exact h
  have h2 := rg_ext (n := m) h1 (by rw [List.length_reverse]; exact hm) v
  rw [List.reverse_cons, ← h2]
  congr 1
  simp
theorem CR_open (h : CR b n S ps i s a) (h8 : S.2.2.1 = 0) (hi : i < i') (h7 : s 7 < 40) (e5 : s' 5 = s 5 + 1) (e6 : s' 6 = s 5) (e7 : s' 7 = s 7 + 1) (g : ∀ j, j ≠ 5 → j ≠ 6 → j ≠ 7 → s' j = s j) (p : a' 3 = updI (updI (a 3) (s 6) (a 3 (s 6) - 1)) (s 5) 0) (p4 : a' 4 = updI (a 4) (s 7) (-1)) (p5 : a' 5 = updI (a 5) (s 7) (s 6)) : CR b n ((0, 0, []) :: pPart S.1, S.2.1, 0, 0) ps i' s' a' := by
  obtain ⟨y, r, hL, he, r6, r3, rv, _, _, _⟩ := CR_row h
  obtain ⟨⟨c1, c2⟩, c3, ⟨c4, c5⟩, c6, c7, c8, hw, ⟨k0, k1, k2, k3, k4⟩, hl, hv, h40⟩ := h
  have hc : S.2.2.2 = 0 := k1 h8
  rw [hc] at c4 c5 c7
  have e2 : itm (pPart S.1) = itm r ++ (-y.2.1 - 1) :: y.2.2 := by rw [hL]; exact itm_part
  have ln : (itm (pPart S.1)).length = (itm S.1).length := by rw [e2, he]; simp
  have e3 : itm ((0, 0, []) :: pPart S.1) = itm (pPart S.1) ++ [0] := rfl
  have g1 : rg (updI (a 3) (s 6) (a 3 (s 6) - 1)) (itm (pPart S.1)).length 0 = itm (pPart S.1) := by
    rw [r3, r6, e2]
    exact rg_put c2 he
  have es : stk ((0, 0, []) :: pPart S.1) ps = -1 :: stk S.1 ps := by
    show (if (0 : Int) = 0 then _ else _) = _
    rw [if_pos rfl, stk_part]
  have c4' : s 7 = ((stk S.1 ps).length : Int) := c4
  have c5' : rg (a 4) (stk S.1 ps).length 0 = (stk S.1 ps).reverse := c5
  have c7' : rwR (a 5) S.1 ps := c7
  refine ⟨⟨?_, ?_⟩, ?_, ⟨?_, ?_⟩, ?_, ?_, c8, ?_, ⟨Int.le_refl 0, fun _ => rfl, fun z => absurd (show (0 : Int) = 2 from z) (by decide), Int.le_refl 0, (by decide : (0 : Int) ≤ 2)⟩, ?_, ?_, ?_⟩
  · show s' 5 = ((itm ((0, 0, []) :: pPart S.1)).length : Int)
    rw [e3, List.length_append, List.length_singleton, e5, c1]
    omega
  · show rg (a' 3) (itm ((0, 0, []) :: pPart S.1)).length 0 = itm ((0, 0, []) :: pPart S.1)
    rw [e3, p]
    exact rg_ext g1 (by omega) 0
  · show s' 6 = ((itm (pPart S.1)).length : Int)
    omega
  · show s' 7 = ((stk ((0, 0, []) :: pPart S.1) ps).length : Int)
    rw [es, List.length_cons]
    omega
  · show rg (a' 4) (stk ((0, 0, []) :: pPart S.1) ps).length 0 = (stk ((0, 0, []) :: pPart S.1) ps).reverse
    rw [es, p4]
    exact rg_psh c5' c4'
  · show s' 8 = 0
    rw [g 8 (by decide) (by decide) (by decide), c6, h8]
  · show (((0 : Int) = 0 → a' 5 ((stk (pPart S.1) ps).length : Int) = row (pPart S.1)) ∧ rwR (a' 5) (pPart S.1) (ps.drop 0))
    refine ⟨fun _ => ?_, rwR_part (rwR_eq S.1 ps (fun j j0 j1 => ?_) c7')⟩
    · rw [stk_part, row_part, p5, ← c4']
      unfold updI
      rw [if_pos rfl]
      exact c3
    · rw [p5]
      unfold updI
      rw [if_neg (by omega)]
  · show ((0 : Int) = -1 ∧ _) ∨ ((0 : Int) ≤ 0 ∧ wfL (pPart S.1))
    right
    refine ⟨Int.le_refl 0, ?_⟩
    rw [hL] at hw ⊢
    exact hw
  · show ((itm ((0, 0, []) :: pPart S.1)).length : Int) ≤ 1 + i'
    rw [e3, List.length_append, List.length_singleton]
    omega
  · intro v hv'
    rw [show (((0 : Int), (0 : Int), ([] : List Int)) :: pPart S.1, S.2.1, (0 : Int), (0 : Int)).1 = (0, 0, []) :: pPart S.1 from rfl, e3, e2] at hv'
    have hy : ∀ u ∈ itm r ++ -y.2.1 :: y.2.2, -i ≤ u ∧ u ≤ 1020 := by rw [← he]; exact hv
    rcases List.mem_append.mp hv' with h9 | h9
    · rcases List.mem_append.mp h9 with h9 | h9
      · have := hy v (List.mem_append_left _ h9); omega
      · rcases List.mem_cons.mp h9 with h9 | h9
        · have := hy (-y.2.1) (by simp); omega
        · have := hy v (List.mem_append_right _ (List.mem_cons_of_mem _ h9)); omega
    · rw [List.mem_singleton.mp h9]
      have := hy (-y.2.1) (by simp)
      have : 0 ≤ s 6 := by omega
      omega
  · omega
theorem CR_name {P : Int} (h : CR b n S ps i s a) (h8 : S.2.2.1 ≠ 0) (hP : nmP b n P) (hi : i < i') (hi0 : 0 ≤ i) (h7 : s 7 < 40) (e5 : s' 5 = s 5 + 1) (e7 : s' 7 = s 7 + 1) (e8 : s' 8 = 2) (g : ∀ j, j ≠ 5 → j ≠ 7 → j ≠ 8 → s' j = s j) (p : a' 3 = updI (a 3) (s 5) 1) (p4 : a' 4 = updI (a 4) (s 7) P) (p5 : a' 5 = updI (a 5) (s 7) (s 6)) : CR b n (pAdd S.1 1, nv b n P :: S.2.1, 2, S.2.2.2 + 1) (P :: ps) i' s' a' := by
  obtain ⟨⟨c1, c2⟩, c3, ⟨c4, c5⟩, c6, c7, ⟨c8, c9⟩, hw, ⟨k0, k1, k2, k3, k4⟩, hl, hv, h40⟩ := h
  have e3 : itm (pAdd S.1 1) = itm S.1 ++ [1] := itm_add' (wfL_ne hw)
  have et : (S.2.2.2 + 1).toNat = S.2.2.2.toNat + 1 := by omega
  have es : (P :: ps).take (S.2.2.2 + 1).toNat ++ stk (pAdd S.1 1) ((P :: ps).drop (S.2.2.2 + 1).toNat) = P :: (ps.take S.2.2.2.toNat ++ stk S.1 (ps.drop S.2.2.2.toNat)) := by
    rw [et, stk_add]
    rfl
  refine ⟨⟨?_, ?_⟩, ?_, ⟨?_, ?_⟩, e8, ?_, ⟨?_, ?_⟩, ?_, ⟨by show 0 ≤ S.2.2.2 + 1; omega, fun z => absurd (show (2 : Int) = 0 from z) (by decide), fun _ => (by show 1 ≤ S.2.2.2 + 1; omega), (by decide : (0 : Int) ≤ 2), Int.le_refl 2⟩, ?_, ?_, ?_⟩
  · show s' 5 = ((itm (pAdd S.1 1)).length : Int)
    rw [e3, List.length_append, List.length_singleton, e5, c1]
    omega
  · show rg (a' 3) (itm (pAdd S.1 1)).length 0 = itm (pAdd S.1 1)
    rw [e3, p]
    exact rg_ext c2 c1 1
  · show s' 6 = row (pAdd S.1 1)
    rw [row_add, g 6 (by decide) (by decide) (by decide)]
    exact c3
  · show s' 7 = (((P :: ps).take (S.2.2.2 + 1).toNat ++ stk (pAdd S.1 1) ((P :: ps).drop (S.2.2.2 + 1).toNat)).length : Int)
    rw [es, List.length_cons]
    omega
  · show rg (a' 4) ((P :: ps).take (S.2.2.2 + 1).toNat ++ stk (pAdd S.1 1) ((P :: ps).drop (S.2.2.2 + 1).toNat)).length 0 = ((P :: ps).take (S.2.2.2 + 1).toNat ++ stk (pAdd S.1 1) ((P :: ps).drop (S.2.2.2 + 1).toNat)).reverse
    rw [es, p4]
    exact rg_psh c5 c4
  · show rwR (a' 5) (pAdd S.1 1) ((P :: ps).drop (S.2.2.2 + 1).toNat)
    rw [et]
    refine rwR_add (rwR_eq S.1 _ (fun j j0 j1 => ?_) c7)
    rw [p5]
    unfold updI
    have : ((stk S.1 (ps.drop S.2.2.2.toNat)).length : Int) ≤ s 7 := by rw [c4, List.length_append]; omega
    have j1' : j < ((stk S.1 (ps.drop S.2.2.2.toNat)).length : Int) := j1
    rw [if_neg (by omega)]
  · show nv b n P :: S.2.1 = (P :: ps).map (nv b n)
    rw [c8]
    rfl
  · intro z hz
    rcases List.mem_cons.mp hz with h9 | h9
    · rw [h9]; exact hP
    · exact c9 z h9
  · show wfL (pAdd S.1 1)
    cases hL : S.1 with
    | nil => rw [hL] at hw; exact hw
    | cons y r => rw [hL] at hw; exact hw
  · show ((itm (pAdd S.1 1)).length : Int) ≤ 1 + i'
    rw [e3, List.length_append, List.length_singleton]
    omega
  · intro v hv'
    rw [show (pAdd S.1 1, nv b n P :: S.2.1, (2 : Int), S.2.2.2 + 1).1 = pAdd S.1 1 from rfl, e3] at hv'
    rcases List.mem_append.mp hv' with h9 | h9
    · have := hv v h9; omega
    · rw [List.mem_singleton.mp h9]; omega
  · omega
theorem CR_dot (h : CR b n S ps i s a) (h8 : S.2.2.1 = 2) (hi : i < i') (hi0 : 0 ≤ i) (e5 : s' 5 = s 5 + 1) (e6 : s' 6 = s 5) (e8 : s' 8 = 0) (g : ∀ j, j ≠ 5 → j ≠ 6 → j ≠ 8 → s' j = s j) (p : a' 3 = updI (a 3) (s 5) 0) (q : ∀ j, j ≠ 3 → a' j = a j) : CR b n ((S.2.2.2, 0, []) :: S.1, S.2.1, 0, 0) ps i' s' a' := by
  obtain ⟨⟨c1, c2⟩, c3, ⟨c4, c5⟩, c6, c7, c8, hw, ⟨k0, k1, k2, k3, k4⟩, hl, hv, h40⟩ := h
  have hc := k2 h8
  have e3 : itm ((S.2.2.2, 0, []) :: S.1) = itm S.1 ++ [0] := rfl
  have es : stk ((S.2.2.2, 0, []) :: S.1) ps = ps.take S.2.2.2.toNat ++ stk S.1 (ps.drop S.2.2.2.toNat) := by
    show (if S.2.2.2 = 0 then _ else _) = _
    rw [if_neg (by omega)]
  refine ⟨⟨?_, ?_⟩, ?_, ⟨?_, ?_⟩, e8, ?_, c8, ?_, ⟨Int.le_refl 0, fun _ => rfl, fun z => absurd (show (0 : Int) = 2 from z) (by decide), Int.le_refl 0, (by decide : (0 : Int) ≤ 2)⟩, ?_, ?_, ?_⟩
  · show s' 5 = ((itm ((S.2.2.2, 0, []) :: S.1)).length : Int)
    rw [e3, List.length_append, List.length_singleton, e5, c1]
    omega
  · show rg (a' 3) (itm ((S.2.2.2, 0, []) :: S.1)).length 0 = itm ((S.2.2.2, 0, []) :: S.1)
    rw [e3, p]
    exact rg_ext c2 c1 0
  · show s' 6 = ((itm S.1).length : Int)
    omega
  · show s' 7 = ((stk ((S.2.2.2, 0, []) :: S.1) ps).length : Int)
    rw [es, g 7 (by decide) (by decide) (by decide)]
    exact c4
  · show rg (a' 4) (stk ((S.2.2.2, 0, []) :: S.1) ps).length 0 = (stk ((S.2.2.2, 0, []) :: S.1) ps).reverse
    rw [es, q 4 (by decide)]
    exact c5
  · show ((S.2.2.2 = 0 → a' 5 ((stk S.1 ps).length : Int) = row S.1) ∧ rwR (a' 5) S.1 (ps.drop S.2.2.2.toNat))
    rw [q 5 (by decide)]
    exact ⟨fun z => by omega, c7⟩
  · show (S.2.2.2 = -1 ∧ _) ∨ (0 ≤ S.2.2.2 ∧ wfL S.1)
    exact Or.inr ⟨k0, hw⟩
  · show ((itm ((S.2.2.2, 0, []) :: S.1)).length : Int) ≤ 1 + i'
    rw [e3, List.length_append, List.length_singleton]
    omega
  · intro v hv'
    rw [show ((S.2.2.2, (0 : Int), ([] : List Int)) :: S.1, S.2.1, (0 : Int), (0 : Int)).1 = (S.2.2.2, 0, []) :: S.1 from rfl, e3] at hv'
    rcases List.mem_append.mp hv' with h9 | h9
    · have := hv v h9; omega
    · rw [List.mem_singleton.mp h9]; omega
  · rw [g 7 (by decide) (by decide) (by decide)]; exact h40
/-- what the scan for a parenthesis finds -/
theorem stk_find {g : Int → Int} {l u v : List Int} (h : rg g l.length 0 = l.reverse) (he : l = u ++ (-1 :: v)) (hu : ∀ z ∈ u, z ≠ -1) {r : Int} (r0 : 0 ≤ r) (r1 : r < (l.length : Int)) (hr : g r = -1) (hn : ∀ j, r < j → j < (l.length : Int) → g j ≠ -1) : r = (v.length : Int) := by
  have h1 : rg g l.reverse.length 0 = l.reverse := by rw [List.length_reverse]; exact h
  have e1 : l.reverse = v.reverse ++ -1 :: u.reverse := by rw [he]; simp
  have g1 : g (v.reverse.length : Int) = -1 := rg_get h1 e1
  rw [List.length_reverse] at g1
  have hl : l.length = u.length + (v.length + 1) := by rw [he]; simp
  rcases Int.lt_trichotomy r (v.length : Int) with z | z | z
  · exact absurd g1 (hn _ z (by omega))
  · exact z
  · exfalso
    have hm : g r ∈ u := by
      have h2 : rg g (v.length + (1 + u.length)) 0 = v.reverse ++ (-1 :: u.reverse) := by rw [← e1, ← h]; congr 1; omega
      rw [rg_app, rg_app] at h2
      have h3 := (List.append_inj h2 (by rw [rg_len, List.length_reverse])).2
      have h4 := (List.append_inj (t₁ := rg g u.length (0 + (v.length : Int) + ((1 : Nat) : Int))) (s₂ := [-1]) (t₂ := u.reverse) h3 (by rw [rg_len]; rfl)).2
      have h5 : g r ∈ rg g u.length (0 + (v.length : Int) + ((1 : Nat) : Int)) := rg_in (by omega) (by omega)
      rw [h4] at h5
      exact List.mem_reverse.mp h5
    exact hu _ hm hr
theorem stk_none {g : Int → Int} {l : List Int} (h : rg g l.length 0 = l.reverse) (hn : ∀ j, 0 ≤ j → j < (l.length : Int) → g j ≠ -1) : ∀ v ∈ l, v ≠ -1 := by
  intro v hv
  have h2 : v ∈ rg g l.length 0 := by rw [h]; exact List.mem_reverse.mpr hv
  obtain ⟨j, j0, j1, rfl⟩ := rg_mem h2
  exact hn j j0 (by omega)
theorem stk_some {g : Int → Int} {l : List Int} (h : rg g l.length 0 = l.reverse) {r : Int} (r0 : 0 ≤ r) (r1 : r < (l.length : Int)) (hr : g r = -1) : -1 ∈ l := by
  have h2 : g r ∈ rg g l.length 0 := rg_in r0 (by omega)
  rw [h, hr] at h2
  exact List.mem_reverse.mp h2
theorem CR_close (h : CR b n S ps i s a) (h8 : S.2.2.1 = 0) (hi : i < i') :
    (a 3 (s 6) = 0 → pClose S.1 S.2.1 = none) ∧ ((∀ j, 0 ≤ j → j < s 7 → a 4 j ≠ -1) → pClose S.1 S.2.1 = none) ∧
    (∀ r, a 3 (s 6) ≠ 0 → 0 ≤ r → r < s 7 → a 4 r = -1 → (∀ j, r < j → j < s 7 → a 4 j ≠ -1) → (∀ j, j ≠ 6 → j ≠ 7 → s' j = s j) → s' 7 = r → s' 6 = a 5 r → ∃ S' ps', pClose S.1 S.2.1 = some S' ∧ CR b n S' ps' i' s' a) := by
  obtain ⟨y, r, hL, he, r6, r3, rv, _, _, _⟩ := CR_row h
  obtain ⟨⟨c1, c2⟩, c3, ⟨c4, c5⟩, c6, c7, ⟨c8, c9⟩, hw, ⟨k0, k1, k2, k3, k4⟩, hl, hv, h40⟩ := h
  have hc : S.2.2.2 = 0 := k1 h8
  rw [hc] at c4 c5 c7
  have c4' : s 7 = ((stk S.1 ps).length : Int) := c4
  have c5' : rg (a 4) (stk S.1 ps).length 0 = (stk S.1 ps).reverse := c5
  have c7' : rwR (a 5) S.1 ps := c7
  rw [hL] at hw c4' c5' c7'
  obtain ⟨y', rest, ps2, q1, q2, q3, q4, q5⟩ := pop_sp (f := nv b n) (g := a 5) r y ps hw (fun p hp => (c9 p hp).1) c7'
  have hcl : y.2.1 ≠ 0 → (rest = [] → pClose S.1 S.2.1 = none) ∧ (∀ z r2, rest = z :: r2 → y'.1 = 0 → pClose S.1 S.2.1 = some ((z.1, z.2.1, z.2.2 ++ ([-y'.2.1] ++ y'.2.2)) :: r2, ps2.map (nv b n), 0, 0)) := fun h0 => by
    rw [hL, c8]
    unfold pClose
    dsimp only
    rw [if_neg h0, q1]
    refine ⟨fun z => ?_, fun z r2 e1 e2 => ?_⟩
    · rw [z]
    · rw [e1]
      dsimp only
      rw [if_pos e2]
  have hcz : y.2.1 = 0 → pClose S.1 S.2.1 = none := fun h0 => by
    rw [hL]
    unfold pClose
    dsimp only
    rw [if_pos h0]
  refine ⟨fun z => hcz (by omega), fun z => ?_, fun m m0 m1 m2 m3 m4 gs e7 e6 => ?_⟩
  · by_cases h0 : y.2.1 = 0
    · exact hcz h0
    · rcases q5 with ⟨a1, a2, a3⟩ | ⟨z2, r2, u, a1, a2, a3, a4, a5, a6⟩
      · exact (hcl h0).1 a1
      · exfalso
        have := stk_none c5' (fun j j0 j1 => z j j0 (by omega)) (-1) (by rw [a3]; simp)
        exact this rfl
  · have h0 : y.2.1 ≠ 0 := by omega
    rcases q5 with ⟨a1, a2, a3⟩ | ⟨z2, r2, u, a1, a2, a3, a4, a5, a6⟩
    · exfalso
      exact a3 (-1) (stk_some c5' m1 (by omega) m3) rfl
    · have hcl2 := (hcl h0).2 z2 r2 a1 a2
      subst a1
      have ei : itm ((z2.1, z2.2.1, z2.2.2 ++ ([-y'.2.1] ++ y'.2.2)) :: r2) = itm S.1 := by
        rw [hL, ← q3]
        show itm r2 ++ ([-z2.2.1] ++ (z2.2.2 ++ ([-y'.2.1] ++ y'.2.2))) = itm r2 ++ ([-z2.2.1] ++ z2.2.2) ++ ([-y'.2.1] ++ y'.2.2)
        simp only [List.append_assoc]
      have hm := stk_find c5' a3 a4 m1 (by omega) m3 (fun j j0 j1 => m4 j j0 (by omega))
      refine ⟨_, ps2, hcl2, ⟨⟨?_, ?_⟩, ?_, ⟨?_, ?_⟩, ?_, ?_, ⟨rfl, fun p hp => c9 p (q2 p hp)⟩, ?_, ⟨Int.le_refl 0, fun _ => rfl, fun z => absurd (show (0 : Int) = 2 from z) (by decide), Int.le_refl 0, (by decide : (0 : Int) ≤ 2)⟩, ?_, ?_, ?_⟩⟩
      · show s' 5 = ((itm ((z2.1, z2.2.1, z2.2.2 ++ ([-y'.2.1] ++ y'.2.2)) :: r2)).length : Int)
        rw [ei, gs 5 (by decide) (by decide)]; exact c1
      · show rg (a 3) (itm ((z2.1, z2.2.1, z2.2.2 ++ ([-y'.2.1] ++ y'.2.2)) :: r2)).length 0 = itm ((z2.1, z2.2.1, z2.2.2 ++ ([-y'.2.1] ++ y'.2.2)) :: r2)
        rw [ei]; exact c2
      · show s' 6 = ((itm r2).length : Int)
        rw [e6, hm]; exact a5
      · show s' 7 = ((stk (z2 :: r2) ps2).length : Int)
        rw [e7, hm]
      · show rg (a 4) (stk (z2 :: r2) ps2).length 0 = (stk (z2 :: r2) ps2).reverse
        have h1 : rg (a 4) ((stk (z2 :: r2) ps2).length + (1 + u.length)) 0 = (stk (z2 :: r2) ps2).reverse ++ (-1 :: u.reverse) := by
          have e9 : (stk (z2 :: r2) ps2).length + (1 + u.length) = (stk (y :: r) ps).length := by rw [a3]; simp; omega
          rw [e9, c5', a3]; simp
        rw [rg_app] at h1
        exact (List.append_inj h1 (by rw [rg_len, List.length_reverse])).1
      · show s' 8 = 0
        rw [gs 8 (by decide) (by decide), c6, h8]
      · exact a6
      · show wfL ((z2.1, z2.2.1, z2.2.2 ++ ([-y'.2.1] ++ y'.2.2)) :: r2)
        rcases q4 with ⟨_, q4⟩ | ⟨_, q4⟩
        · cases q4
        · exact q4
      · show ((itm ((z2.1, z2.2.1, z2.2.2 ++ ([-y'.2.1] ++ y'.2.2)) :: r2)).length : Int) ≤ 1 + i'
        rw [ei]; omega
      · intro v hv'
        have hv2 : v ∈ itm S.1 := by rw [← ei]; exact hv'
        have := hv v hv2
        omega
      · show s' 7 ≤ 40
        omega
theorem CR_end (h : CR b n S ps i s a) (h8 : S.2.2.1 = 0) : (a 3 (s 6) = 0 → pEnd S = none) ∧ (∀ r, 0 ≤ r → r < s 7 → a 4 r = -1 → pEnd S = none) ∧ (a 3 (s 6) ≠ 0 → (∀ j, 0 ≤ j → j < s 7 → a 4 j ≠ -1) → pEnd S = some (itm S.1)) := by
  obtain ⟨y, r, hL, he, r6, r3, rv, _, _, _⟩ := CR_row h
  obtain ⟨⟨c1, c2⟩, c3, ⟨c4, c5⟩, c6, c7, ⟨c8, c9⟩, hw, ⟨k0, k1, k2, k3, k4⟩, hl, hv, h40⟩ := h
  have hc : S.2.2.2 = 0 := k1 h8
  rw [hc] at c4 c5 c7
  have c4' : s 7 = ((stk S.1 ps).length : Int) := c4
  have c5' : rg (a 4) (stk S.1 ps).length 0 = (stk S.1 ps).reverse := c5
  have c7' : rwR (a 5) S.1 ps := c7
  rw [hL] at hw c4' c5' c7'
  obtain ⟨y', rest, ps2, q1, q2, q3, q4, q5⟩ := pop_sp (f := nv b n) (g := a 5) r y ps hw (fun p hp => (c9 p hp).1) c7'
  have hcl : y.2.1 ≠ 0 → (rest = [] → y'.1 = -1 → pEnd S = some ([-y'.2.1] ++ y'.2.2)) ∧ (∀ z r2, rest = z :: r2 → pEnd S = none) := fun h0 => by
    unfold pEnd
    rw [if_pos h8, hL, c8]
    dsimp only
    rw [if_neg h0, q1]
    refine ⟨fun z e => ?_, fun z r2 e1 => ?_⟩
    · rw [z]
      dsimp only
      rw [if_pos (by omega)]
    · rw [e1]
  have hcz : y.2.1 = 0 → pEnd S = none := fun h0 => by
    unfold pEnd
    rw [if_pos h8, hL]
    dsimp only
    rw [if_pos h0]
  refine ⟨fun z => hcz (by omega), fun m m1 m2 m3 => ?_, fun m z => ?_⟩
  · by_cases h0 : y.2.1 = 0
    · exact hcz h0
    · rcases q5 with ⟨a1, a2, a3⟩ | ⟨z2, r2, u, a1, a2, a3, a4, a5, a6⟩
      · exfalso
        exact a3 (-1) (stk_some c5' m1 (by omega) m3) rfl
      · exact (hcl h0).2 z2 r2 a1
  · rcases q5 with ⟨a1, a2, a3⟩ | ⟨z2, r2, u, a1, a2, a3, a4, a5, a6⟩
    · rw [(hcl (by omega)).1 a1 a2]
      subst a1
      rw [hL, ← q3]
      rfl
    · exfalso
      have := stk_none c5' (fun j j0 j1 => z j j0 (by omega)) (-1) (by rw [a3]; simp)
      exact this rfl
end
