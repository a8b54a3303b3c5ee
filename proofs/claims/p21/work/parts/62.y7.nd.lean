/-! THE CLASS's waiting row as a list: pure -/
def ws9 (g : Int → Int) (w : Int) : List Int := pl g w.toNat
theorem ws9_len {g : Int → Int} {w : Int} : (ws9 g w).length = w.toNat := pl_len
theorem ws9_0 {g : Int → Int} {w : Int} (h : w ≤ 0) : ws9 g w = [] := by
  unfold ws9
  rw [show w.toNat = 0 by omega]
  rfl
theorem ws9_put {g : Int → Int} {w v : Int} (h : 0 ≤ w) : ws9 (updI g w v) (w + 1) = v :: ws9 g w := by
  unfold ws9
  rw [show (w + 1).toNat = w.toNat + 1 by omega]
  have := pl_put (g := g) (n := w.toNat) (v := v)
  rw [show ((w.toNat : Nat) : Int) = w by omega] at this
  exact this
theorem ws9_2 {g : Int → Int} {w u v : Int} (h : 0 ≤ w) : ws9 (updI (updI g w u) (w + 1) v) (w + 2) = v :: u :: ws9 g w := by
  rw [show w + 2 = w + 1 + 1 by omega, ws9_put (by omega), ws9_put h]
theorem ws9_top {g : Int → Int} {w : Int} (h : 0 < w) : ws9 g w = g (w - 1) :: ws9 g (w - 1) := by
  unfold ws9
  rw [show w.toNat = (w - 1).toNat + 1 by omega]
  show g (((w - 1).toNat : Nat) : Int) :: _ = _
  rw [show (((w - 1).toNat : Nat) : Int) = w - 1 by omega]
theorem ws9_mem {g : Int → Int} {w x : Int} (h : x ∈ ws9 g w) : ∃ j, 0 ≤ j ∧ j < w ∧ x = g j := by
  obtain ⟨j, h0, h1, h2⟩ := pl_mem h
  exact ⟨j, h0, by omega, h2⟩
theorem FO9_len {g D : Int → Int} {z : Int} : ∀ {m : Nat} {p : Int}, FO9 g D z m p → (m : Int) ≤ z - p := by
  intro m
  induction m with
  | zero => intro p h; have : p = z := h; omega
  | succ m ih =>
    intro p h
    obtain ⟨_, _, e, f, f', k', t, _, _, _, h2⟩ := h
    have := tm_lt t
    have := ih h2
    omega
