/-! LAYING a type down, cell by cell, its names by the order in which they come: pure -/
theorem cnf_len : ∀ {l S : List Int}, (cnf S l).length = l.length := by
  intro l
  induction l with
  | nil => intro S; rfl
  | cons c r ih =>
    intro S
    show (if c = 0 then 0 :: cnf S r else if ixo c S 0 = -1 then ((S.length : Int) + 1) :: cnf (S ++ [c]) r else (ixo c S 0 + 1) :: cnf S r).length = _
    split
    · rw [List.length_cons, ih, List.length_cons]
    · split
      · rw [List.length_cons, ih, List.length_cons]
      · rw [List.length_cons, ih, List.length_cons]
theorem ixo_in {v : Int} : ∀ {S : List Int} {k : Int}, 0 ≤ k → ixo v S k = -1 ∨ (k ≤ ixo v S k ∧ ixo v S k < k + S.length) := by
  intro S
  induction S with
  | nil => intro k _; exact Or.inl rfl
  | cons x r ih =>
    intro k hk
    show (if x = v then k else ixo v r (k + 1)) = -1 ∨ (k ≤ (if x = v then k else ixo v r (k + 1)) ∧ (if x = v then k else ixo v r (k + 1)) < k + ((x :: r).length : Int))
    rw [List.length_cons]
    by_cases c : x = v
    · rw [if_pos c]; right; omega
    · rw [if_neg c]
      rcases ih (k := k + 1) (by omega) with h | h
      · exact Or.inl h
      · right; omega
theorem ixo_app {v c : Int} : ∀ {S : List Int} {k : Int}, 0 ≤ k → ixo v (S ++ [c]) k = if ixo v S k = -1 then (if c = v then k + S.length else -1) else ixo v S k := by
  intro S
  induction S with
  | nil =>
    intro k _
    show (if c = v then k else -1) = _
    have : ixo v [] k = -1 := rfl
    rw [this, if_pos rfl]
    simp
  | cons x r ih =>
    intro k hk
    show (if x = v then k else ixo v (r ++ [c]) (k + 1)) = (if (if x = v then k else ixo v r (k + 1)) = -1 then (if c = v then k + ((x :: r).length : Int) else -1) else (if x = v then k else ixo v r (k + 1)))
    by_cases e : x = v
    · rw [if_pos e, if_pos e, if_neg (by omega)]
    · rw [if_neg e, if_neg e, ih (k := k + 1) (by omega), List.length_cons]
      rw [show k + 1 + (r.length : Int) = k + ((r.length + 1 : Nat) : Int) by omega]
def LY (K no nv off : Int) (L R rt : Int → Int) (U : Int → List Int) (T em : List Int) (nu wt : Int → Int) (y w : Int) : Prop := ∃ S : List Int, (S.length : Int) = y ∧ T = em ++ cnf S ((pl wt w.toNat).flatMap U) ∧ ∀ x, 0 ≤ x → x < K → (ixo (x + 1) S 0 = -1 ∧ nu x = nv) ∨ (0 ≤ ixo (x + 1) S 0 ∧ ixo (x + 1) S 0 < y ∧ nu x = ixo (x + 1) S 0 + off)
section
variable {K no nv off : Int} {L R rt : Int → Int} {U : Int → List Int} {T em : List Int} {nu wt : Int → Int} {y w x : Int}
theorem LY_beg {t : Int} (h : ∀ x, 0 ≤ x → x < K → nu x = nv) (hw : wt 0 = t) : LY K no nv off L R rt U (cnf [] (U t)) [] nu wt 0 1 := by
  refine ⟨[], rfl, ?_, fun x a b => Or.inl ⟨rfl, h x a b⟩⟩
  show cnf [] (U t) = [] ++ cnf [] (U (wt ((0 : Nat) : Int)) ++ [])
  rw [List.append_nil, List.nil_append, show wt ((0 : Nat) : Int) = t from hw]
theorem pl_top (h : 0 < w) : pl wt w.toNat = wt (w + -1) :: pl wt (w + -1).toNat := by
  rw [show w.toNat = (w + -1).toNat + 1 by omega]
  show wt (((w + -1).toNat : Nat) : Int) :: _ = _
  rw [show (((w + -1).toNat : Nat) : Int) = w + -1 by omega]
theorem LY_full (h : LY K no nv off L R rt U T em nu wt y w) (hw : 0 < w) (hU : 1 ≤ (U (wt (w + -1))).length) : em.length + 1 ≤ T.length := by
  obtain ⟨S, _, e, _⟩ := h
  rw [e, List.length_append, cnf_len, pl_top hw, List.flatMap_cons, List.length_append]
  omega
theorem LY_end (h : LY K no nv off L R rt U T em nu wt y 0) : T = em := by
  obtain ⟨S, _, e, _⟩ := h
  rw [e]
  show em ++ [] = em
  rw [List.append_nil]
theorem LY_arr (h : LY K no nv off L R rt U T em nu wt y w) (hw : 0 < w) (hU : U (wt (w + -1)) = 0 :: (U (L x) ++ U (R x))) : LY K no nv off L R rt U T (em ++ [0]) nu (updI (updI wt (w + -1) (R x)) (w + -1 + 1) (L x)) y (w + -1 + 2) := by
  obtain ⟨S, e0, e, hn⟩ := h
  refine ⟨S, e0, ?_, hn⟩
  have e1 : pl (updI (updI wt (w + -1) (R x)) (w + -1 + 1) (L x)) (w + -1 + 2).toNat = L x :: R x :: pl wt (w + -1).toNat := by
    rw [show (w + -1 + 2).toNat = (w + -1).toNat + 1 + 1 by omega]
    show updI (updI wt (w + -1) (R x)) (w + -1 + 1) (L x) (((w + -1).toNat + 1 : Nat) : Int) :: updI (updI wt (w + -1) (R x)) (w + -1 + 1) (L x) (((w + -1).toNat : Nat) : Int) :: pl (updI (updI wt (w + -1) (R x)) (w + -1 + 1) (L x)) (w + -1).toNat = _
    rw [show (((w + -1).toNat + 1 : Nat) : Int) = w + -1 + 1 by omega, show (((w + -1).toNat : Nat) : Int) = w + -1 by omega, updI_s, updI_n _ _ (by omega), updI_s]
    rw [pl_eq (g := wt) (fun j a b => by rw [updI_n _ _ (by omega), updI_n _ _ (by omega)])]
  rw [e1, List.flatMap_cons, List.flatMap_cons, e, pl_top hw, List.flatMap_cons, hU, List.cons_append, List.append_assoc, List.append_assoc]
  show em ++ (if (0 : Int) = 0 then 0 :: cnf S (U (L x) ++ (U (R x) ++ (pl wt (w + -1).toNat).flatMap U)) else _) = _
  rw [if_pos rfl]
  rfl
theorem LY_old (h : LY K no nv off L R rt U T em nu wt y w) (hv : nv < off) (hw : 0 < w) (hx : 0 ≤ x ∧ x < K) (hU : U (wt (w + -1)) = [x + 1]) (ho : nu x ≠ nv) {v : Int} (he : v = nu x - off + 1) : LY K no nv off L R rt U T (em ++ [v]) nu wt y (w + -1) := by
  obtain ⟨S, e0, e, hn⟩ := h
  refine ⟨S, e0, ?_, hn⟩
  rcases hn x hx.1 hx.2 with ⟨_, z⟩ | ⟨z1, z2, z3⟩
  · exact absurd z ho
  · rw [e, pl_top hw, List.flatMap_cons, hU, List.append_assoc]
    show em ++ (if x + 1 = 0 then _ else if ixo (x + 1) S 0 = -1 then _ else (ixo (x + 1) S 0 + 1) :: cnf S ([] ++ (pl wt (w + -1).toNat).flatMap U)) = _
    rw [if_neg (by omega), if_neg (by omega), show ixo (x + 1) S 0 + 1 = v by omega]
    rfl
theorem LY_new (h : LY K no nv off L R rt U T em nu wt y w) (hv : nv < off) (hw : 0 < w) (hx : 0 ≤ x ∧ x < K) (hU : U (wt (w + -1)) = [x + 1]) (ho : nu x = nv) {v z : Int} (he : v = y + 1) (hz : z = y + off) : LY K no nv off L R rt U T (em ++ [v]) (updI nu x z) wt (y + 1) (w + -1) := by
  obtain ⟨S, e0, e, hn⟩ := h
  have h0 : ixo (x + 1) S 0 = -1 := by
    rcases hn x hx.1 hx.2 with ⟨z, _⟩ | ⟨z1, z2, z3⟩
    · exact z
    · omega
  refine ⟨S ++ [x + 1], by rw [List.length_append]; simp; omega, ?_, fun q a b => ?_⟩
  · rw [e, pl_top hw, List.flatMap_cons, hU, List.append_assoc]
    show em ++ (if x + 1 = 0 then _ else if ixo (x + 1) S 0 = -1 then ((S.length : Int) + 1) :: cnf (S ++ [x + 1]) ([] ++ (pl wt (w + -1).toNat).flatMap U) else _) = _
    rw [if_neg (by omega), if_pos h0, e0, ← he]
    rfl
  · rw [ixo_app (by omega)]
    by_cases c : q = x
    · rw [c, h0, if_pos rfl, if_pos rfl, updI_s]
      right; omega
    · rw [updI_n _ _ c]
      rcases hn q a b with ⟨z1, z2⟩ | ⟨z1, z2, z3⟩
      · rw [z1, if_pos rfl, if_neg (by omega)]
        exact Or.inl ⟨rfl, z2⟩
      · rw [if_neg (by omega)]
        right; omega
end
/-- the whole of a kind, by the rank -/
def Uf (no : Int) (L R rt : Int → Int) (h : Int → Nat) (k : Int) : List Int := unf no L R rt (h (rt k) + 1) k
theorem Uf_n {K no : Int} {L R rt : Int → Int} {h : Int → Nat} {k : Int} (e : L (rt k) = no) : Uf no L R rt h k = [rt k + 1] := unf_n e
theorem Uf_a {K no : Int} {L R rt : Int → Int} {h : Int → Nat} (g : GR K no L R rt) (r : RK K no L R rt h) {k : Int} (k0 : 0 ≤ k) (k1 : k < K) (e : L (rt k) ≠ no) : Uf no L R rt h k = 0 :: (Uf no L R rt h (L (rt k)) ++ Uf no L R rt h (R (rt k))) := by
  obtain ⟨g1, g2, g3⟩ := g.1 k k0 k1
  obtain ⟨l1, l2, _⟩ := g.2 (rt k) g1 g2 e
  obtain ⟨r1, r2⟩ := r (rt k) g1 g2 g3 e
  unfold Uf
  rw [unf_a e, unf_eq g r (f := h (rt k)) (f' := h (rt (L (rt k))) + 1) l1.1 l1.2 r1 (by omega), unf_eq g r (f := h (rt k)) (f' := h (rt (R (rt k))) + 1) l2.1 l2.2 r2 (by omega)]
theorem Uf_pos {K no : Int} {L R rt : Int → Int} {h : Int → Nat} (g : GR K no L R rt) (r : RK K no L R rt h) {k : Int} (k0 : 0 ≤ k) (k1 : k < K) : 1 ≤ (Uf no L R rt h k).length := by
  by_cases e : L (rt k) = no
  · rw [Uf_n (K := K) e]; exact Nat.le_refl 1
  · rw [Uf_a g r k0 k1 e, List.length_cons]; omega
/-- what typed says of a row of types -/
def tyR (TY : List Int → Prop) (r : Int) (c : List Int) : Prop := ∃ o, prT9 TY o ∧ ((o = none ∧ r = -4) ∨ ∃ l, o = some l ∧ ((l.length ≤ 500 ∧ r = l.length ∧ c = l) ∨ (500 < l.length ∧ r = -3)))
theorem tyR_one {TY : List Int → Prop} {r r' : Int} {c c' : List Int} (h : tyR TY r c) (h' : tyR TY r' c') : r = r' ∧ (0 ≤ r → c = c') := by
  obtain ⟨o, h1, h2⟩ := h
  obtain ⟨o', h1', h2'⟩ := h'
  have := prT9_one h1 h1'
  subst this
  rcases h2 with ⟨e, z⟩ | ⟨l, e, h2⟩
  · rcases h2' with ⟨_, z'⟩ | ⟨l', e', _⟩
    · exact ⟨by omega, fun c => by omega⟩
    · rw [e] at e'; exact absurd e' (by simp)
  · rcases h2' with ⟨e', _⟩ | ⟨l', e', h2'⟩
    · rw [e] at e'; exact absurd e' (by simp)
    · rw [e] at e'
      have := Option.some.inj e'
      subst this
      rcases h2 with ⟨a1, a2, a3⟩ | ⟨a1, a2⟩ <;> rcases h2' with ⟨b1, b2, b3⟩ | ⟨b1, b2⟩
      · exact ⟨by omega, fun _ => by rw [a3, b3]⟩
      · omega
      · omega
      · exact ⟨by omega, fun c => by omega⟩
theorem tyR_cg {TY TY' : List Int → Prop} {r : Int} {c : List Int} (h : ∀ u, TY u ↔ TY' u) (t : tyR TY r c) : tyR TY' r c := by
  have : TY = TY' := funext (fun u => propext (h u))
  rw [← this]
  exact t
