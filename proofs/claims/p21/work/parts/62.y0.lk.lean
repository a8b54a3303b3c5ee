/-! THE CLASS's nodes: links that may be halved, roots, what waits in the queue: pure -/
def cnr (lk : Int → Int) : Nat → Int
  | 0 => 0
  | n + 1 => cnr lk n + (if lk n = n then 0 else 1)
theorem cnr_le {lk : Int → Int} : ∀ {n : Nat}, 0 ≤ cnr lk n ∧ cnr lk n ≤ n := by
  intro n
  induction n with
  | zero => exact ⟨Int.le_refl 0, Int.le_refl 0⟩
  | succ n ih =>
    show 0 ≤ cnr lk n + _ ∧ cnr lk n + _ ≤ _
    split <;> omega
theorem cnr_eq {lk lk' : Int → Int} : ∀ {n : Nat}, (∀ j, 0 ≤ j → j < (n : Int) → (lk' j = j ↔ lk j = j)) → cnr lk' n = cnr lk n := by
  intro n
  induction n with
  | zero => intro _; rfl
  | succ n ih =>
    intro h
    show cnr lk' n + (if lk' n = n then 0 else 1) = cnr lk n + (if lk n = n then 0 else 1)
    rw [ih (fun j a b => h j a (by omega))]
    have := h n (by omega) (by omega)
    by_cases c : lk n = n
    · rw [if_pos c, if_pos (this.mpr c)]
    · rw [if_neg c, if_neg (fun z => c (this.mp z))]
theorem cnr_up {lk : Int → Int} {g y : Int} (hg : lk g = g) (hy : y ≠ g) : ∀ {n : Nat}, 0 ≤ g → g < n → cnr (updI lk g y) n = cnr lk n + 1 := by
  intro n
  induction n with
  | zero => intro a b; omega
  | succ n ih =>
    intro a b
    show cnr (updI lk g y) n + (if updI lk g y n = n then 0 else 1) = cnr lk n + (if lk n = n then 0 else 1) + 1
    by_cases c : g = n
    · subst c
      rw [updI_s, if_neg hy, if_pos hg, cnr_eq (lk := lk) (fun j z y => by rw [updI_n _ _ (by omega)])]
      omega
    · rw [ih a (by omega), updI_n _ _ (by omega)]
      omega
theorem cnr_lt {lk : Int → Int} {g : Int} (hg : lk g = g) : ∀ {n : Nat}, 0 ≤ g → g < n → cnr lk n + 1 ≤ n := by
  intro n
  induction n with
  | zero => intro a b; omega
  | succ n ih =>
    intro a b
    show cnr lk n + (if lk n = n then 0 else 1) + 1 ≤ _
    by_cases c : g = n
    · rw [if_pos (by rw [← c]; exact hg)]
      have := cnr_le (lk := lk) (n := n)
      omega
    · have := ih a (by omega)
      split <;> omega
def LR (K : Int) (lk rt : Int → Int) : Prop := (∀ k, 0 ≤ k → k < K → (0 ≤ lk k ∧ lk k < K) ∧ rt (lk k) = rt k ∧ (lk k = k → rt k = k) ∧ lk (rt k) = rt k) ∧ ∃ τ : Int → Int, ∀ k, 0 ≤ k → k < K → lk k ≠ k → 0 ≤ τ k ∧ τ k < cnr lk K.toNat ∧ (lk (lk k) ≠ lk k → τ k < τ (lk k))
theorem LR_0 {lk rt : Int → Int} : LR 0 lk rt := ⟨fun k a b => by omega, fun _ => 0, fun k a b => by omega⟩
theorem LR_new {K : Int} {lk rt : Int → Int} (h : LR K lk rt) (hK : 0 ≤ K) (hr : ∀ k, 0 ≤ k → k < K → 0 ≤ rt k ∧ rt k < K) : LR (K + 1) (updI lk K K) (updI rt K K) := by
  obtain ⟨h1, τ, h2⟩ := h
  have ec : cnr (updI lk K K) (K + 1).toNat = cnr lk K.toNat := by
    rw [show (K + 1).toNat = K.toNat + 1 by omega]
    show cnr (updI lk K K) K.toNat + (if updI lk K K (K.toNat : Int) = (K.toNat : Int) then 0 else 1) = _
    rw [show ((K.toNat : Nat) : Int) = K by omega, updI_s, if_pos rfl, cnr_eq (lk := lk) (fun j a b => by rw [updI_n _ _ (by omega)])]
    omega
  refine ⟨fun k a b => ?_, τ, fun k a b c => ?_⟩
  · by_cases ck : k = K
    · subst ck; rw [updI_s, updI_s]; refine ⟨⟨by omega, by omega⟩, ?_, fun _ => rfl, ?_⟩ <;> first | rfl | exact updI_s _ _ _
    · obtain ⟨p1, p2, p3, p4⟩ := h1 k a (by omega)
      have r := hr k a (by omega)
      rw [updI_n lk _ ck, updI_n rt _ ck, updI_n rt _ (by omega), updI_n lk _ (by omega)]
      exact ⟨⟨p1.1, by omega⟩, p2, p3, p4⟩
  · by_cases ck : k = K
    · subst ck; exact absurd (updI_s _ _ _) c
    · rw [updI_n lk _ ck] at c ⊢
      obtain ⟨p1, _⟩ := h1 k a (by omega)
      rw [updI_n lk _ (by omega), ec]
      exact h2 k a (by omega) c
theorem LR_link {K g y : Int} {lk rt : Int → Int} (h : LR K lk rt) (hr : ∀ k, 0 ≤ k → k < K → 0 ≤ rt k ∧ rt k < K) (hg : 0 ≤ g ∧ g < K) (hy : 0 ≤ y ∧ y < K) (rg : rt g = g) (ry : rt y = y) (ne : g ≠ y) : LR K (updI lk g y) (fun k => if rt k = g then y else rt k) ∧ cnr (updI lk g y) K.toNat = cnr lk K.toNat + 1 := by
  obtain ⟨h1, τ, h2⟩ := h
  have lg : lk g = g := by have := (h1 g hg.1 hg.2).2.2.2; rw [rg] at this; exact this
  have ly : lk y = y := by have := (h1 y hy.1 hy.2).2.2.2; rw [ry] at this; exact this
  have ec := cnr_up (lk := lk) lg (fun z => ne z.symm) (n := K.toNat) hg.1 (by omega)
  refine ⟨⟨fun k a b => ?_, updI τ g (cnr lk K.toNat), fun k a b c => ?_⟩, ec⟩
  · obtain ⟨p1, p2, p3, p4⟩ := h1 k a b
    show (0 ≤ updI lk g y k ∧ updI lk g y k < K) ∧ (if rt (updI lk g y k) = g then y else rt (updI lk g y k)) = (if rt k = g then y else rt k) ∧ (updI lk g y k = k → (if rt k = g then y else rt k) = k) ∧ updI lk g y (if rt k = g then y else rt k) = (if rt k = g then y else rt k)
    have last : updI lk g y (if rt k = g then y else rt k) = (if rt k = g then y else rt k) := by
      by_cases c : rt k = g
      · rw [if_pos c, updI_n _ _ (fun z => ne z.symm)]; exact ly
      · rw [if_neg c, updI_n _ _ c]; exact p4
    by_cases ck : k = g
    · subst ck
      rw [updI_s, ry, if_neg (fun z => ne z.symm), if_pos rg]
      rw [if_pos rg] at last
      exact ⟨hy, rfl, fun z => z, last⟩
    · rw [updI_n _ _ ck, p2]
      refine ⟨p1, rfl, fun z => ?_, last⟩
      have := p3 z
      rw [if_neg (by omega)]; exact this
  · rw [ec]
    have cl := cnr_le (lk := lk) (n := K.toNat)
    by_cases ck : k = g
    · subst ck
      rw [updI_s, updI_s, updI_n _ _ (fun z => ne z.symm)]
      exact ⟨by omega, by omega, fun z => absurd ly z⟩
    · rw [updI_n lk _ ck] at c ⊢
      rw [updI_n τ _ ck]
      obtain ⟨q1, q2, q3⟩ := h2 k a b c
      refine ⟨q1, by omega, fun z => ?_⟩
      by_cases cq : lk k = g
      · rw [cq, updI_s]; omega
      · rw [updI_n lk _ cq] at z
        rw [updI_n τ _ cq]; exact q3 z
/-- a link is put past what it led to -/
def LRt (K : Int) (lk τ : Int → Int) : Prop := ∀ k, 0 ≤ k → k < K → lk k ≠ k → 0 ≤ τ k ∧ τ k < cnr lk K.toNat ∧ (lk (lk k) ≠ lk k → τ k < τ (lk k))
def LRr (K : Int) (lk rt : Int → Int) : Prop := ∀ k, 0 ≤ k → k < K → (0 ≤ lk k ∧ lk k < K) ∧ rt (lk k) = rt k ∧ (lk k = k → rt k = k) ∧ lk (rt k) = rt k
theorem LR_halve {K r : Int} {lk rt τ : Int → Int} (h1 : LRr K lk rt) (h2 : LRt K lk τ) (hr : 0 ≤ r ∧ r < K) (hl : lk r ≠ r) : (LRr K (updI lk r (lk (lk r))) rt ∧ LRt K (updI lk r (lk (lk r))) τ) ∧ cnr (updI lk r (lk (lk r))) K.toNat = cnr lk K.toNat ∧ (updI lk r (lk (lk r)) (lk (lk r)) ≠ lk (lk r) → τ r < τ (lk (lk r))) := by
  obtain ⟨p1, p2, p3, p4⟩ := h1 r hr.1 hr.2
  obtain ⟨q1, q2, q3, q4⟩ := h1 (lk r) p1.1 p1.2
  obtain ⟨t1, t2, t3⟩ := h2 r hr.1 hr.2 hl
  have nr : lk (lk r) ≠ r := fun z => by
    have c1 : lk (lk r) ≠ lk r := fun y => hl (by rw [← y]; exact z)
    have t4 := t3 c1
    obtain ⟨_, _, t5⟩ := h2 (lk r) p1.1 p1.2 c1
    rw [z] at t5
    have := t5 hl
    omega
  have nrt : ∀ k, 0 ≤ k → k < K → rt k ≠ r := fun k a b z => by
    have := (h1 k a b).2.2.2
    rw [z] at this
    exact hl this
  have ec : cnr (updI lk r (lk (lk r))) K.toNat = cnr lk K.toNat := cnr_eq (fun j a b => by
    by_cases c : j = r
    · rw [c, updI_s]; exact ⟨fun z => absurd z nr, fun z => absurd z hl⟩
    · rw [updI_n _ _ c])
  have tt : lk (lk (lk r)) ≠ lk (lk r) → τ r < τ (lk (lk r)) := fun z => by
    have c1 : lk (lk r) ≠ lk r := fun y => z (by rw [y]; exact y)
    have t4 := t3 c1
    obtain ⟨_, _, t5⟩ := h2 (lk r) p1.1 p1.2 c1
    have := t5 z
    omega
  refine ⟨⟨fun k a b => ?_, fun k a b c => ?_⟩, ec, fun z => tt (by rw [updI_n _ _ nr] at z; exact z)⟩
  · obtain ⟨k1, k2, k3, k4⟩ := h1 k a b
    rw [updI_n lk _ (nrt k a b)]
    by_cases ck : k = r
    · subst ck
      rw [updI_s]
      exact ⟨q1, by rw [q2, p2], fun z => absurd z nr, k4⟩
    · rw [updI_n _ _ ck]
      exact ⟨k1, k2, k3, k4⟩
  · rw [ec]
    by_cases ck : k = r
    · subst ck
      rw [updI_s, updI_n _ _ nr]
      exact ⟨t1, t2, tt⟩
    · rw [updI_n lk _ ck] at c ⊢
      obtain ⟨u1, u2, u3⟩ := h2 k a b c
      refine ⟨u1, u2, fun z => ?_⟩
      by_cases cq : lk k = r
      · exact u3 (by rw [cq]; exact hl)
      · rw [updI_n lk _ cq] at z
        exact u3 z
/-- what is joined, what waits: X the equations of all -/
def JI (K : Int) (F G lk rt : Int → Int) (W : Int → Int → Prop) (P : Int → Prop) (X : (Int → List Int) → Prop) : Prop := LR K lk rt ∧ GI K (-1) F G rt W P ∧ ∀ t, X t ↔ (SOL K (-1) F G rt t ∧ ∀ a b, W a b → t a = t b)
section
variable {K : Int} {F G lk rt : Int → Int} {W W' : Int → Int → Prop} {P P' : Int → Prop} {X : (Int → List Int) → Prop} {p q x y : Int}
theorem JI_skip (h : JI K F G lk rt W P X) (hp : 0 ≤ p ∧ p < K) (hq : 0 ≤ q ∧ q < K) (e : rt p = rt q) (hW : ∀ a b, W a b → (a = p ∧ b = q) ∨ W' a b) (hW' : ∀ a b, W' a b → W a b) : JI K F G lk rt W' P X := by
  obtain ⟨h1, h2, h3⟩ := h
  refine ⟨h1, GI_skip h2 hp hq e hW, fun t => ?_⟩
  rw [h3 t]
  constructor
  · rintro ⟨a, b⟩; exact ⟨a, fun u v z => b u v (hW' u v z)⟩
  · rintro ⟨a, b⟩
    refine ⟨a, fun u v z => ?_⟩
    rcases hW u v z with ⟨z1, z2⟩ | z
    · rw [z1, z2, ← (a p hp.1 hp.2).2.2, ← (a q hq.1 hq.2).2.2, e]
    · exact b u v z
/-- g goes under y; where both are arrows g waits -/
theorem JI_link {g y : Int} (h : JI K F G lk rt W P X) (hp : 0 ≤ p ∧ p < K) (hq : 0 ≤ q ∧ q < K) (hgy : (rt p = g ∧ rt q = y) ∨ (rt p = y ∧ rt q = g)) (ne : g ≠ y) (hL : F g ≠ -1 → F y ≠ -1 ∧ P' g) (hW : ∀ a b, W a b → (a = p ∧ b = q) ∨ W' a b) (hW' : ∀ a b, W' a b → W a b) (hpq : W p q) (hP : ∀ j, P j → P' j) (hP' : ∀ j, P' j → (0 ≤ j ∧ j < K) ∧ F j ≠ -1) : ∃ rt', JI K F G (updI lk g y) rt' W' P' X ∧ cnr (updI lk g y) K.toNat = cnr lk K.toNat + 1 ∧ rt' g = y := by
  obtain ⟨h1, h2, h3⟩ := h
  have hrt := h2.2.1
  have p1 := hrt p hp.1 hp.2
  have q1 := hrt q hq.1 hq.2
  have hg : ((0 ≤ g ∧ g < K) ∧ rt g = g) ∧ ((0 ≤ y ∧ y < K) ∧ rt y = y) := by
    rcases hgy with ⟨e1, e2⟩ | ⟨e1, e2⟩ <;> rw [e1] at p1 <;> rw [e2] at q1
    · exact ⟨⟨⟨p1.1, p1.2.1⟩, p1.2.2⟩, ⟨q1.1, q1.2.1⟩, q1.2.2⟩
    · exact ⟨⟨⟨q1.1, q1.2.1⟩, q1.2.2⟩, ⟨p1.1, p1.2.1⟩, p1.2.2⟩
  obtain ⟨l1, l2⟩ := LR_link h1 (fun k a b => ⟨(hrt k a b).1, (hrt k a b).2.1⟩) hg.1.1 hg.2.1 hg.1.2 hg.2.2 ne
  refine ⟨fun k => if rt k = g then y else rt k, ⟨l1, GI_link h2 hp hq hgy ne (fun z => (hL z).1) (fun k a b => rfl) hW hP hP' (fun z E ev _ ep => ?_), fun t => ?_⟩, l2, by show (if rt g = g then y else rt g) = y; rw [if_pos hg.1.2]⟩
  · have := ep g (hL z).2
    rw [show (if rt g = g then y else rt g) = y from if_pos hg.1.2] at this
    exact this
  · rw [h3 t]
    constructor
    · rintro ⟨a, b⟩
      exact ⟨(SOL_up hrt (GI_rg h2).2 hp hq hgy (fun k _ _ => rfl) a (b p q hpq)).1, fun u v z => b u v (hW' u v z)⟩
    · rintro ⟨a, b⟩
      obtain ⟨a1, a2⟩ := SOL_dn hrt hp hq hgy (fun k _ _ => rfl) a
      refine ⟨a1, fun u v z => ?_⟩
      rcases hW u v z with ⟨z1, z2⟩ | z
      · rw [z1, z2]; exact a2
      · exact b u v z
end
theorem JI_P {K : Int} {F G lk rt : Int → Int} {W : Int → Int → Prop} {P P' : Int → Prop} {X : (Int → List Int) → Prop} (h : JI K F G lk rt W P X) (hP : ∀ j, P j → P' j) (hP' : ∀ j, P' j → P j) : JI K F G lk rt W P' X := ⟨h.1, GI_cg h.2.1 (fun _ _ _ => ⟨rfl, rfl, rfl⟩) (fun _ _ z => z) hP (fun j z => h.2.1.2.2.2.1 j (hP' j z)), h.2.2⟩
theorem JI_lk {K : Int} {F G lk lk' rt : Int → Int} {W : Int → Int → Prop} {P : Int → Prop} {X : (Int → List Int) → Prop} (h : JI K F G lk rt W P X) (hL : LR K lk' rt) : JI K F G lk' rt W P X := ⟨hL, h.2⟩
/-- one joining, as the class does it: a, b the roots of the two -/
def JQ (P : Int → Prop) (qu : Int → Int) (q q' : Int) : Int → Prop := fun j => P j ∨ ∃ k, q ≤ k ∧ k < q' ∧ j = qu k
def GC (K : Int) (F G lk rt : Int → Int) : Prop := LR K lk rt ∧ GI K (-1) F G rt noW noP
def QS (qu : Int → Int) (i q : Int) : Int → Prop := fun j => ∃ k, i ≤ k ∧ k < q ∧ j = qu k
def W2 (a b c d : Int) : Int → Int → Prop := fun u v => (u = a ∧ v = b) ∨ (u = c ∧ v = d)
def W1 (a b : Int) : Int → Int → Prop := fun u v => u = a ∧ v = b
theorem JI_beg {K x y : Int} {F G lk rt : Int → Int} (h : GC K F G lk rt) : JI K F G lk rt (W1 x y) noP (fun t => SOL K (-1) F G rt t ∧ t x = t y) := ⟨h.1, GI_cg h.2 (fun _ _ _ => ⟨rfl, rfl, rfl⟩) (fun _ _ z => z.elim) (fun _ z => z) (fun _ z => z.elim), fun t => ⟨fun z => ⟨z.1, fun a b c => by rw [c.1, c.2]; exact z.2⟩, fun z => ⟨z.1, z.2 x y ⟨rfl, rfl⟩⟩⟩⟩
theorem JI_end {K : Int} {F G lk rt : Int → Int} {X : (Int → List Int) → Prop} (h : JI K F G lk rt noW noP X) : GC K F G lk rt ∧ ∀ t, SOL K (-1) F G rt t ↔ X t := ⟨⟨h.1, h.2.1⟩, fun t => ⟨fun z => (h.2.2 t).mpr ⟨z, fun _ _ y => y.elim⟩, fun z => ((h.2.2 t).mp z).1⟩⟩
theorem JI_pop {K j x : Int} {F G lk rt : Int → Int} {P P' : Int → Prop} {X : (Int → List Int) → Prop} (h : JI K F G lk rt noW P X) (hj : P j) (hx : x = rt j) (hP : ∀ i, P i → i = j ∨ P' i) (hP' : ∀ i, P' i → P i) : JI K F G lk rt (W2 (F j) (F x) (G j) (G x)) P' X := by
  obtain ⟨h1, h2, h3⟩ := h
  refine ⟨h1, GI_pop h2 hx (fun _ _ z => z.elim) (Or.inl ⟨rfl, rfl⟩) (Or.inr ⟨rfl, rfl⟩) hP hP', fun t => ?_⟩
  rw [h3 t]
  constructor
  · rintro ⟨s, _⟩
    obtain ⟨⟨j0, j1⟩, jf⟩ := h2.2.2.2.1 j hj
    have r1 := h2.2.2.1 j j0 j1 jf
    have rr := h2.2.1 j j0 j1
    have rx := h2.2.2.1 (rt j) rr.1 rr.2.1 r1.2.2
    have e1 := (s j j0 j1).2.1 jf
    have e2 := (s (rt j) rr.1 rr.2.1).2.1 r1.2.2
    rw [(s j j0 j1).2.2, e1] at e2
    have e3 := ty_inj (s _ r1.1.1 r1.1.2).1 (s _ rx.1.1 rx.1.2).1 e2
    refine ⟨s, fun a b z => ?_⟩
    rcases z with ⟨z1, z2⟩ | ⟨z1, z2⟩
    · rw [z1, z2, hx]; exact e3.1
    · rw [z1, z2, hx]; exact e3.2
  · rintro ⟨s, _⟩
    exact ⟨s, fun _ _ z => z.elim⟩
