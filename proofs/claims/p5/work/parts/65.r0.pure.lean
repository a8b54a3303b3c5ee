/-! THE CLASS'S READER: what its rows hold: pure -/
def itm : List Lev → List Int
  | [] => []
  | x :: r => itm r ++ ([-x.2.1] ++ x.2.2)
def row : List Lev → Int
  | [] => 0
  | _ :: r => ((itm r).length : Int)
def stk : List Lev → List Int → List Int
  | [], ps => ps
  | x :: r, ps => if x.1 = 0 then -1 :: stk r ps else ps.take x.1.toNat ++ stk r (ps.drop x.1.toNat)
def rwR (g : Int → Int) : List Lev → List Int → Prop
  | [], _ => True
  | x :: r, ps => (x.1 = 0 → g ((stk r ps).length : Int) = row r) ∧ rwR g r (ps.drop x.1.toNat)
theorem stk_len : ∀ (L : List Lev) (ps : List Int), ((stk L ps).length : Int) = nP L + ps.length
  | [], ps => by show (ps.length : Int) = 0 + ps.length; omega
  | x :: r, ps => by
    show ((if x.1 = 0 then -1 :: stk r ps else ps.take x.1.toNat ++ stk r (ps.drop x.1.toNat)).length : Int) = ((if x.1 = 0 then 1 else 0) + nP r) + ps.length
    by_cases h : x.1 = 0
    · rw [if_pos h, if_pos h, List.length_cons]
      have := stk_len r ps
      omega
    · rw [if_neg h, if_neg h, List.length_append]
      have := stk_len r (ps.drop x.1.toNat)
      have e : (ps.take x.1.toNat).length + (ps.drop x.1.toNat).length = ps.length := by rw [← List.length_append, List.take_append_drop]
      omega
theorem stk_nam : ∀ (L : List Lev) (ps : List Int), (∀ p ∈ ps, 0 ≤ p) → (stk L ps).filter (fun v => decide (v ≠ -1)) = ps
  | [], ps, h => List.filter_eq_self.mpr (fun v hv => by have := h v hv; simp; omega)
  | x :: r, ps, h => by
    show (if x.1 = 0 then -1 :: stk r ps else ps.take x.1.toNat ++ stk r (ps.drop x.1.toNat)).filter _ = ps
    by_cases h0 : x.1 = 0
    · rw [if_pos h0, List.filter_cons_of_neg (by simp)]
      exact stk_nam r ps h
    · rw [if_neg h0, List.filter_append, stk_nam r _ (fun p hp => h p (List.mem_of_mem_drop hp)), List.filter_eq_self.mpr (fun v hv => by have := h v (List.mem_of_mem_take hv); simp; omega), List.take_append_drop]
theorem stk_part (L : List Lev) (ps : List Int) : stk (pPart L) ps = stk L ps := by cases L <;> rfl
theorem stk_add (L : List Lev) (i : Int) (ps : List Int) : stk (pAdd L i) ps = stk L ps := by cases L <;> rfl
theorem row_part (L : List Lev) : row (pPart L) = row L := by cases L <;> rfl
theorem row_add (L : List Lev) (i : Int) : row (pAdd L i) = row L := by cases L <;> rfl
theorem rwR_part {g : Int → Int} {L : List Lev} {ps : List Int} (h : rwR g L ps) : rwR g (pPart L) ps := by cases L <;> exact h
theorem rwR_add {g : Int → Int} {L : List Lev} {i : Int} {ps : List Int} (h : rwR g L ps) : rwR g (pAdd L i) ps := by cases L <;> exact h
theorem itm_part {x : Lev} {r : List Lev} : itm (pPart (x :: r)) = itm r ++ ((-x.2.1 - 1) :: x.2.2) := by
  show itm r ++ ([-(x.2.1 + 1)] ++ x.2.2) = _
  rw [show -(x.2.1 + 1) = -x.2.1 - 1 by omega]
  rfl
theorem itm_add {x : Lev} {r : List Lev} {i : Int} : itm (pAdd (x :: r) i) = itm (x :: r) ++ [i] := by
  show itm r ++ ([-x.2.1] ++ (x.2.2 ++ [i])) = itm r ++ ([-x.2.1] ++ x.2.2) ++ [i]
  rw [List.append_assoc, List.append_assoc]
theorem itm_add' {L : List Lev} {i : Int} (h : L ≠ []) : itm (pAdd L i) = itm L ++ [i] := by
  cases L with
  | nil => exact absurd rfl h
  | cons x r => exact itm_add
/-- what stands in a row, by its list -/
theorem rg_get {g : Int → Int} {l u v : List Int} {x : Int} (h : rg g l.length 0 = l) (he : l = u ++ x :: v) : g (u.length : Int) = x := by
  subst he
  have h1 : rg g (u.length + (v.length + 1)) 0 = u ++ x :: v := by rw [← h]; congr 1; simp
  rw [rg_app] at h1
  have h2 := (List.append_inj h1 rg_len).2
  have h3 : g (0 + (u.length : Int)) = x := (List.cons.inj h2).1
  rw [← h3]
  congr 1
  omega
theorem rg_put {g : Int → Int} {l u v : List Int} {x y : Int} (h : rg g l.length 0 = l) (he : l = u ++ x :: v) : rg (updI g (u.length : Int) y) (u ++ y :: v).length 0 = u ++ y :: v := by
  subst he
  have e : (u ++ y :: v).length = u.length + (v.length + 1) := by simp
  have h1 : rg g (u.length + (v.length + 1)) 0 = u ++ x :: v := by rw [← h]; congr 1; simp
  rw [rg_app] at h1
  obtain ⟨h2, h3⟩ := List.append_inj h1 rg_len
  have h4 : rg g v.length (0 + (u.length : Int) + 1) = v := (List.cons.inj h3).2
  rw [e, rg_app]
  have a1 : rg (updI g (u.length : Int) y) u.length 0 = u := by
    refine (rg_eq (g := g) (fun j z y => ?_)).trans h2
    unfold updI
    rw [if_neg (by omega)]
  have a2 : rg (updI g (u.length : Int) y) (v.length + 1) (0 + (u.length : Int)) = y :: v := by
    show updI g (u.length : Int) y (0 + (u.length : Int)) :: rg (updI g (u.length : Int) y) v.length (0 + (u.length : Int) + 1) = y :: v
    have b1 : updI g (u.length : Int) y (0 + (u.length : Int)) = y := by unfold updI; rw [if_pos (by omega)]
    have b2 : rg (updI g (u.length : Int) y) v.length (0 + (u.length : Int) + 1) = v := by
      refine (rg_eq (fun j z y => ?_)).trans h4
      unfold updI
      rw [if_neg (by omega)]
    rw [b1, b2]
  rw [a1, a2]
/-- what is popped -/
theorem pop_sp {f : Int → Int} {g : Int → Int} : ∀ (r : List Lev) (x : Lev) (ps : List Int), wfL (x :: r) → (∀ p ∈ ps, 0 ≤ p) → rwR g (x :: r) ps →
    ∃ y rest ps2, pPop x r (ps.map f) = (y, rest, ps2.map f) ∧ (∀ p ∈ ps2, p ∈ ps) ∧ itm (y :: rest) = itm (x :: r) ∧ wfL (y :: rest) ∧
      ((rest = [] ∧ y.1 = -1 ∧ (∀ v ∈ stk (x :: r) ps, v ≠ -1)) ∨ (∃ z r2 u, rest = z :: r2 ∧ y.1 = 0 ∧ stk (x :: r) ps = u ++ (-1 :: stk (z :: r2) ps2) ∧ (∀ v ∈ u, v ≠ -1) ∧ g ((stk (z :: r2) ps2).length : Int) = row (z :: r2) ∧ rwR g (z :: r2) ps2))
  | [], x, ps, hw, hp, hr => by
    have hx : x.1 = -1 := by
      rcases hw with ⟨h, -⟩ | ⟨-, h⟩
      · exact h
      · exact h.elim
    refine ⟨x, [], ps, rfl, fun _ h => h, rfl, hw, Or.inl ⟨rfl, hx, ?_⟩⟩
    intro v hv
    have e : stk [x] ps = ps := by
      show (if x.1 = 0 then _ else ps.take x.1.toNat ++ ps.drop x.1.toNat) = ps
      rw [if_neg (by omega), List.take_append_drop]
    rw [e] at hv
    have := hp v hv
    omega
  | y :: r, x, ps, hw, hp, hr => by
    have hx : 0 ≤ x.1 ∧ wfL (y :: r) := by
      rcases hw with ⟨-, h⟩ | h
      · cases h
      · exact h
    by_cases h0 : 0 < x.1
    · obtain ⟨y', rest, ps2, q1, q2, q3, q4, q5⟩ := pop_sp (f := f) r (y.1, y.2.1, y.2.2 ++ ([-x.2.1] ++ x.2.2)) (ps.drop x.1.toNat) hx.2 (fun p h => hp p (List.mem_of_mem_drop h)) hr.2
      have es : stk (x :: y :: r) ps = ps.take x.1.toNat ++ stk ((y.1, y.2.1, y.2.2 ++ ([-x.2.1] ++ x.2.2)) :: r) (ps.drop x.1.toNat) := by
        show (if x.1 = 0 then _ else ps.take x.1.toNat ++ stk (y :: r) (ps.drop x.1.toNat)) = _
        rw [if_neg (by omega)]
        rfl
      have hn : ∀ v ∈ ps.take x.1.toNat, v ≠ -1 := fun v hv => by
        have := hp v (List.mem_of_mem_take hv)
        omega
      refine ⟨y', rest, ps2, ?_, fun p h => List.mem_of_mem_drop (q2 p h), ?_, q4, ?_⟩
      · show (if 0 < x.1 then pPop (y.1, y.2.1, y.2.2 ++ ([-x.2.1] ++ x.2.2)) r ((ps.map f).drop x.1.toNat) else _) = _
        rw [if_pos h0, ← List.map_drop]
        exact q1
      · rw [q3]
        show itm r ++ ([-y.2.1] ++ (y.2.2 ++ ([-x.2.1] ++ x.2.2))) = itm r ++ ([-y.2.1] ++ y.2.2) ++ ([-x.2.1] ++ x.2.2)
        simp only [List.append_assoc]
      · rcases q5 with ⟨a1, a2, a3⟩ | ⟨z, r2, u, a1, a2, a3, a4, a5, a6⟩
        · refine Or.inl ⟨a1, a2, fun v hv => ?_⟩
          rw [es] at hv
          rcases List.mem_append.mp hv with h | h
          · exact hn v h
          · exact a3 v h
        · refine Or.inr ⟨z, r2, ps.take x.1.toNat ++ u, a1, a2, ?_, fun v hv => ?_, a5, a6⟩
          · rw [es, a3, List.append_assoc]
          · rcases List.mem_append.mp hv with h | h
            · exact hn v h
            · exact a4 v h
    · have h1 : x.1 = 0 := by omega
      have es : stk (x :: y :: r) ps = -1 :: stk (y :: r) ps := by
        show (if x.1 = 0 then _ else _) = _
        rw [if_pos h1]
      have hr2 : rwR g (y :: r) (ps.drop x.1.toNat) := hr.2
      rw [h1] at hr2
      refine ⟨x, y :: r, ps, ?_, fun _ h => h, rfl, hw, Or.inr ⟨y, r, [], rfl, h1, by rw [es]; rfl, fun v hv => absurd hv List.not_mem_nil, hr.1 h1, hr2⟩⟩
      show (if 0 < x.1 then _ else (x, y :: r, ps.map f)) = _
      rw [if_neg h0]
/-- a name's value -/
def vr : List Int → Int
  | [] => 0
  | c :: l => 27 * vr l + c - 96
theorem vr_nn : ∀ (l : List Int), (∀ c ∈ l, 97 ≤ c ∧ c ≤ 122) → 0 ≤ vr l
  | [], _ => Int.le_refl 0
  | c :: l, h => by
    have := vr_nn l (fun c hc => h c (List.mem_cons_of_mem _ hc))
    have := h c List.mem_cons_self
    show 0 ≤ 27 * vr l + c - 96
    omega
theorem vr_inj : ∀ (l u : List Int), (∀ c ∈ l, 97 ≤ c ∧ c ≤ 122) → (∀ c ∈ u, 97 ≤ c ∧ c ≤ 122) → vr l = vr u → l = u
  | [], [], _, _, _ => rfl
  | [], c :: u, _, h2, h => by
    have := vr_nn u (fun c hc => h2 c (List.mem_cons_of_mem _ hc))
    have := h2 c List.mem_cons_self
    have h : (0 : Int) = 27 * vr u + c - 96 := h
    omega
  | c :: l, [], h1, _, h => by
    have := vr_nn l (fun c hc => h1 c (List.mem_cons_of_mem _ hc))
    have := h1 c List.mem_cons_self
    have h : 27 * vr l + c - 96 = (0 : Int) := h
    omega
  | c :: l, e :: u, h1, h2, h => by
    have a1 := h1 c List.mem_cons_self
    have a2 := h2 e List.mem_cons_self
    have h : 27 * vr l + c - 96 = 27 * vr u + e - 96 := h
    have e1 : c = e := by omega
    have e2 : vr l = vr u := by omega
    rw [e1, vr_inj l u (fun c hc => h1 c (List.mem_cons_of_mem _ hc)) (fun c hc => h2 c (List.mem_cons_of_mem _ hc)) e2]
def nEnd (b : Int → Int) (n p : Int) : Int := (rdl b 97 122 27 96 8 n p 600 p 0).1
def nv (b : Int → Int) (n p : Int) : Int := (rdl b 97 122 27 96 8 n p 600 p 0).2
def nmP (b : Int → Int) (n p : Int) : Prop := 0 ≤ p ∧ p < n ∧ nEnd b n p - p ≤ 8
theorem rdl_nam {b : Int → Int} {n p : Int} : ∀ (f : Nat) (i : Int), p ≤ i → i ≤ n → n ≤ i + f → ∀ v, v = vr (rg b (i - p).toNat p).reverse → (rdl b 97 122 27 96 8 n p f i v).1 - p ≤ 8 →
    (rdl b 97 122 27 96 8 n p f i v).2 = vr (rg b ((rdl b 97 122 27 96 8 n p f i v).1 - p).toNat p).reverse ∧ ∀ j, i ≤ j → j < (rdl b 97 122 27 96 8 n p f i v).1 → 97 ≤ b j ∧ b j ≤ 122 := by
  intro f
  induction f with
  | zero =>
    intro i h1 h2 h3 v hv _
    have e : rdl b 97 122 27 96 8 n p 0 i v = (i, v) := rfl
    rw [e]
    exact ⟨hv, fun j z y => by exfalso; have : j < i := y; omega⟩
  | succ f ih =>
    intro i h1 h2 h3 v hv h8
    by_cases c : i < n ∧ 97 ≤ b i ∧ b i ≤ 122
    · obtain ⟨c1, c2, c3⟩ := c
      by_cases c4 : i - p < 8
      · rw [rdl_y c1 c2 c3 c4] at h8 ⊢
        have hv2 : 27 * v + b i - 96 = vr (rg b (i + 1 - p).toNat p).reverse := by
          rw [show (i + 1 - p).toNat = (i - p).toNat + 1 by omega, rg_snoc, List.reverse_append, show p + ((i - p).toNat : Int) = i by omega]
          show _ = 27 * vr (rg b (i - p).toNat p).reverse + b i - 96
          rw [← hv]
        obtain ⟨r1, r2⟩ := ih (i + 1) (by omega) (by omega) (by omega) _ hv2 h8
        refine ⟨r1, fun j z y => ?_⟩
        by_cases e : j = i
        · rw [e]; exact ⟨c2, c3⟩
        · exact r2 j (by omega) y
      · exfalso
        rw [rdl_z c1 c2 c3 (by omega)] at h8
        have := (rdl_le (g := b) (lo := 97) (hi := 122) (m := 27) (z := 96) (w := 8) (n := n) (b := p) f (i + 1) v (by omega)).1
        omega
    · rw [rdl_n (by omega)] at h8 ⊢
      exact ⟨hv, fun j z y => by exfalso; have : j < i := y; omega⟩
theorem nm_facts {b : Int → Int} {n p : Int} (hn : n ≤ 600) (h : nmP b n p) : nv b n p = vr (rg b (nEnd b n p - p).toNat p).reverse ∧ (∀ j, p ≤ j → j < nEnd b n p → 97 ≤ b j ∧ b j ≤ 122) ∧ p ≤ nEnd b n p ∧ nEnd b n p ≤ n ∧ (nEnd b n p = n ∨ (nEnd b n p < n ∧ (b (nEnd b n p) < 97 ∨ 122 < b (nEnd b n p)))) := by
  obtain ⟨h0, h1, h2⟩ := h
  obtain ⟨r1, r2⟩ := rdl_nam (b := b) (n := n) (p := p) 600 p (Int.le_refl _) (by omega) (by omega) 0 (by rw [show (p - p).toNat = 0 by omega]; rfl) h2
  have r3 := rdl_le (g := b) (lo := 97) (hi := 122) (m := 27) (z := 96) (w := 8) (n := n) (b := p) 600 p 0 (by omega)
  exact ⟨r1, r2, r3.1, r3.2, rdl_stop 600 p 0 (by omega) (by omega)⟩
/-- two names are the same just if their bytes are -/
theorem nm_eq {b : Int → Int} {n p q : Int} (hn : n ≤ 600) (hp : nmP b n p) (hq : nmP b n q) :
    nv b n p = nv b n q ↔ ((∀ i, 0 ≤ i → i < nEnd b n q - q → p + i < n ∧ b (p + i) = b (q + i)) ∧ ¬ (p + (nEnd b n q - q) < n ∧ 97 ≤ b (p + (nEnd b n q - q)) ∧ b (p + (nEnd b n q - q)) ≤ 122)) := by
  obtain ⟨p1, p2, p3, p4, p5⟩ := nm_facts hn hp
  obtain ⟨q1, q2, q3, q4, q5⟩ := nm_facts hn hq
  have al : ∀ {x e : Int}, x ≤ e → (∀ j, x ≤ j → j < e → 97 ≤ b j ∧ b j ≤ 122) → ∀ c ∈ (rg b (e - x).toNat x).reverse, 97 ≤ c ∧ c ≤ 122 := by
    intro x e hxe h c hc
    obtain ⟨j, j1, j2, rfl⟩ := rg_mem (List.mem_reverse.mp hc)
    exact h j j1 (by omega)
  constructor
  · intro h
    rw [p1, q1] at h
    have e := vr_inj _ _ (al p3 p2) (al q3 q2) h
    have e2 := congrArg List.reverse e
    rw [List.reverse_reverse, List.reverse_reverse] at e2
    have el := congrArg List.length e2
    rw [rg_len, rg_len] at el
    have ew : nEnd b n p = p + (nEnd b n q - q) := by omega
    refine ⟨fun i i0 i1 => ⟨by omega, ?_⟩, fun z => ?_⟩
    · rw [el] at e2
      exact rg_at e2 i i0 (by omega)
    · rw [← ew] at z
      omega
  · rintro ⟨h1, h2⟩
    have ew : nEnd b n p = p + (nEnd b n q - q) := by
      have k1 : ¬ nEnd b n p < p + (nEnd b n q - q) := fun z => by
        have := h1 (nEnd b n p - p) (by omega) (by omega)
        have e9 : p + (nEnd b n p - p) = nEnd b n p := by omega
        rw [e9] at this
        have q9 := q2 (q + (nEnd b n p - p)) (by omega) (by omega)
        omega
      have k2 : ¬ p + (nEnd b n q - q) < nEnd b n p := fun z => by
        have := p2 (p + (nEnd b n q - q)) (by omega) z
        exact h2 ⟨by omega, this.1, this.2⟩
      omega
    rw [p1, q1]
    congr 2
    rw [show (nEnd b n p - p).toNat = (nEnd b n q - q).toNat by omega]
    have := rg_congr (g := b) (g' := b) (n := (nEnd b n q - q).toNat) (p := q) (o := p - q) (fun j j0 j1 => by
      have := (h1 (j - q) (by omega) (by omega)).2
      rw [show p + (j - q) = j + (p - q) by omega, show q + (j - q) = j by omega] at this
      exact this)
    rw [show q + (p - q) = p by omega] at this
    exact this
/-- the class's reader stands where the pure one does -/
def CR (b : Int → Int) (n : Int) (S : PS) (ps : List Int) (i : Int) (s : Nat → Int) (a : Nat → Int → Int) : Prop :=
  (s 5 = (itm S.1).length ∧ rg (a 3) (itm S.1).length 0 = itm S.1) ∧ s 6 = row S.1 ∧ (s 7 = (ps.take S.2.2.2.toNat ++ stk S.1 (ps.drop S.2.2.2.toNat)).length ∧ rg (a 4) (ps.take S.2.2.2.toNat ++ stk S.1 (ps.drop S.2.2.2.toNat)).length 0 = (ps.take S.2.2.2.toNat ++ stk S.1 (ps.drop S.2.2.2.toNat)).reverse) ∧ s 8 = S.2.2.1 ∧
  rwR (a 5) S.1 (ps.drop S.2.2.2.toNat) ∧ (S.2.1 = ps.map (nv b n) ∧ ∀ p ∈ ps, nmP b n p) ∧ wfL S.1 ∧ (0 ≤ S.2.2.2 ∧ (S.2.2.1 = 0 → S.2.2.2 = 0) ∧ (S.2.2.1 = 2 → 1 ≤ S.2.2.2) ∧ 0 ≤ S.2.2.1 ∧ S.2.2.1 ≤ 2) ∧ ((itm S.1).length : Int) ≤ 1 + i ∧ (∀ v ∈ itm S.1, -i ≤ v ∧ v ≤ 1020) ∧ s 7 ≤ 40
