/-! JOINING: what is joined, what waits to be joined: pure -/
def EV (E : Int → Int → Prop) : Prop := (∀ a, E a a) ∧ (∀ a b, E a b → E b a) ∧ ∀ a b c, E a b → E b c → E a c
def GI (K no : Int) (L R rt : Int → Int) (W : Int → Int → Prop) (P : Int → Prop) : Prop := 0 ≤ K ∧ (∀ k, 0 ≤ k → k < K → 0 ≤ rt k ∧ rt k < K ∧ rt (rt k) = rt k) ∧ (∀ k, 0 ≤ k → k < K → L k ≠ no → (0 ≤ L k ∧ L k < K) ∧ (0 ≤ R k ∧ R k < K) ∧ L (rt k) ≠ no) ∧ (∀ j, P j → (0 ≤ j ∧ j < K) ∧ L j ≠ no) ∧ ∀ E : Int → Int → Prop, EV E → (∀ k, 0 ≤ k → k < K → E k (rt k)) → (∀ x y, W x y → E x y) → (∀ j, P j → E (L j) (L (rt j)) ∧ E (R j) (R (rt j))) → ∀ k, 0 ≤ k → k < K → L k ≠ no → E (L k) (L (rt k)) ∧ E (R k) (R (rt k))
def noW : Int → Int → Prop := fun _ _ => False
def noP : Int → Prop := fun _ => False
theorem GI_gr {K no : Int} {L R rt : Int → Int} (h : GI K no L R rt noW noP) : GR K no L R rt := by
  obtain ⟨h0, h1, h2, _, h4⟩ := h
  refine ⟨h1, fun k a b c => ?_⟩
  obtain ⟨p1, p2, p3⟩ := h2 k a b c
  obtain ⟨q1, q2⟩ := h4 (fun x y => rt x = rt y) ⟨fun _ => rfl, fun _ _ e => e.symm, fun _ _ _ e f => e.trans f⟩ (fun k a b => (h1 k a b).2.2.symm) (fun _ _ z => z.elim) (fun _ z => z.elim) k a b c
  exact ⟨p1, p2, p3, q1, q2⟩
theorem GI_0 {no : Int} {L R rt : Int → Int} : GI 0 no L R rt noW noP := ⟨Int.le_refl 0, fun k a b => by omega, fun k a b => by omega, fun _ z => z.elim, fun _ _ _ _ _ k a b => by omega⟩
/-- nothing but the names of the rows has changed -/
theorem GI_cg {K no : Int} {L R rt L' R' rt' : Int → Int} {W W' : Int → Int → Prop} {P P' : Int → Prop} (h : GI K no L R rt W P) (hL : ∀ k, 0 ≤ k → k < K → L' k = L k ∧ R' k = R k ∧ rt' k = rt k) (hW : ∀ x y, W x y → W' x y) (hP : ∀ j, P j → P' j) (hP' : ∀ j, P' j → (0 ≤ j ∧ j < K) ∧ L j ≠ no) : GI K no L' R' rt' W' P' := by
  obtain ⟨h0, h1, h2, h3, h4⟩ := h
  have hr : ∀ k, 0 ≤ k → k < K → L' (rt' k) = L (rt k) ∧ R' (rt' k) = R (rt k) := fun k a b => by
    rw [(hL k a b).2.2]
    exact ⟨(hL _ (h1 k a b).1 (h1 k a b).2.1).1, (hL _ (h1 k a b).1 (h1 k a b).2.1).2.1⟩
  refine ⟨h0, fun k a b => ?_, fun k a b c => ?_, fun j z => ⟨(hP' j z).1, by rw [(hL j (hP' j z).1.1 (hP' j z).1.2).1]; exact (hP' j z).2⟩, fun E e1 e2 e3 e4 k a b c => ?_⟩
  · obtain ⟨p1, p2, p3⟩ := h1 k a b
    rw [(hL k a b).2.2, (hL _ p1 p2).2.2]
    exact ⟨p1, p2, p3⟩
  · rw [(hL k a b).1] at c
    obtain ⟨q1, q2, q3⟩ := h2 k a b c
    rw [(hL k a b).1, (hL k a b).2.1, (hr k a b).1]
    exact ⟨q1, q2, q3⟩
  · rw [(hL k a b).1] at c
    rw [(hL k a b).1, (hL k a b).2.1, (hr k a b).1, (hr k a b).2]
    refine h4 E e1 (fun k a b => by rw [← (hL k a b).2.2]; exact e2 k a b) (fun x y z => e3 x y (hW x y z)) (fun j z => ?_) k a b c
    have e5 := e4 j (hP j z)
    obtain ⟨⟨j0, j1⟩, _⟩ := h3 j z
    rw [(hL j j0 j1).1, (hL j j0 j1).2.1, (hr j j0 j1).1, (hr j j0 j1).2] at e5
    exact e5
/-- one node more -/
theorem GI_new {K no : Int} {L R rt L' R' rt' : Int → Int} (h : GI K no L R rt noW noP) (hL : ∀ k, 0 ≤ k → k < K → L' k = L k ∧ R' k = R k ∧ rt' k = rt k) (hK : L' K = no ∨ ((0 ≤ L' K ∧ L' K < K) ∧ (0 ≤ R' K ∧ R' K < K))) (hr : rt' K = K) : GI (K + 1) no L' R' rt' noW noP := by
  obtain ⟨h0, h1, h2, h3, h4⟩ := h
  have hq : ∀ k, 0 ≤ k → k < K → L' (rt' k) = L (rt k) ∧ R' (rt' k) = R (rt k) := fun k a b => by
    rw [(hL k a b).2.2]
    exact ⟨(hL _ (h1 k a b).1 (h1 k a b).2.1).1, (hL _ (h1 k a b).1 (h1 k a b).2.1).2.1⟩
  refine ⟨by omega, fun k a b => ?_, fun k a b c => ?_, fun _ z => z.elim, fun E e1 e2 e3 e4 k a b c => ?_⟩
  · by_cases ck : k = K
    · subst ck; rw [hr, hr]; exact ⟨by omega, by omega, rfl⟩
    · obtain ⟨p1, p2, p3⟩ := h1 k a (by omega)
      rw [(hL k a (by omega)).2.2, (hL _ p1 p2).2.2]
      exact ⟨p1, by omega, p3⟩
  · by_cases ck : k = K
    · subst ck
      rw [hr]
      rcases hK with z | z
      · exact absurd z c
      · exact ⟨by omega, by omega, c⟩
    · have ha := hL k a (by omega)
      rw [ha.1] at c
      obtain ⟨q1, q2, q3⟩ := h2 k a (by omega) c
      rw [ha.1, ha.2.1, (hq k a (by omega)).1]
      exact ⟨by omega, by omega, q3⟩
  · by_cases ck : k = K
    · subst ck; rw [hr]; exact ⟨e1.1 _, e1.1 _⟩
    · have ha := hL k a (by omega)
      rw [ha.1] at c
      rw [ha.1, ha.2.1, (hq k a (by omega)).1, (hq k a (by omega)).2]
      exact h4 E e1 (fun k a b => by rw [← (hL k a b).2.2]; exact e2 k a (by omega)) (fun x y z => z.elim) (fun j z => z.elim) k a (by omega) c
/-- g is put under y -/
theorem GI_link {K no p q g y : Int} {L R rt rt' : Int → Int} {W W' : Int → Int → Prop} {P P' : Int → Prop} (h : GI K no L R rt W P) (hp : 0 ≤ p ∧ p < K) (hq : 0 ≤ q ∧ q < K) (hgy : (rt p = g ∧ rt q = y) ∨ (rt p = y ∧ rt q = g)) (ne : g ≠ y) (hL : L g ≠ no → L y ≠ no) (hr : ∀ k, 0 ≤ k → k < K → rt' k = if rt k = g then y else rt k) (hW : ∀ a b, W a b → (a = p ∧ b = q) ∨ W' a b) (hP : ∀ j, P j → P' j) (hP' : ∀ j, P' j → (0 ≤ j ∧ j < K) ∧ L j ≠ no) (hG : L g ≠ no → ∀ E, EV E → (∀ a b, W' a b → E a b) → (∀ j, P' j → E (L j) (L (rt' j)) ∧ E (R j) (R (rt' j))) → E (L g) (L y) ∧ E (R g) (R y)) : GI K no L R rt' W' P' := by
  obtain ⟨h0, h1, h2, h3, h4⟩ := h
  obtain ⟨p1, p2, p3⟩ := h1 p hp.1 hp.2
  obtain ⟨q1, q2, q3⟩ := h1 q hq.1 hq.2
  have g0 : (0 ≤ g ∧ g < K) ∧ rt g = g := by
    rcases hgy with ⟨e1, e2⟩ | ⟨e1, e2⟩
    · rw [e1] at p1 p2 p3; exact ⟨⟨p1, p2⟩, p3⟩
    · rw [e2] at q1 q2 q3; exact ⟨⟨q1, q2⟩, q3⟩
  have y0 : (0 ≤ y ∧ y < K) ∧ rt y = y := by
    rcases hgy with ⟨e1, e2⟩ | ⟨e1, e2⟩
    · rw [e2] at q1 q2 q3; exact ⟨⟨q1, q2⟩, q3⟩
    · rw [e1] at p1 p2 p3; exact ⟨⟨p1, p2⟩, p3⟩
  have rg : rt' g = y := by rw [hr g g0.1.1 g0.1.2, if_pos g0.2]
  have ry : rt' y = y := by rw [hr y y0.1.1 y0.1.2, if_neg (by rw [y0.2]; exact fun z => ne z.symm), y0.2]
  refine ⟨h0, fun k a b => ?_, fun k a b c => ?_, hP', fun E e1 e2 e3 e4 => ?_⟩
  · rw [hr k a b]
    obtain ⟨k1, k2, k3⟩ := h1 k a b
    by_cases c : rt k = g
    · rw [if_pos c]; exact ⟨y0.1.1, y0.1.2, ry⟩
    · rw [if_neg c]; exact ⟨k1, k2, by rw [hr _ k1 k2, k3, if_neg c]⟩
  · obtain ⟨c1, c2, c3⟩ := h2 k a b c
    refine ⟨c1, c2, ?_⟩
    rw [hr k a b]
    by_cases c : rt k = g
    · rw [if_pos c]; exact hL (by rw [← c]; exact c3)
    · rw [if_neg c]; exact c3
  · have egy : E g y := by have := e2 g g0.1.1 g0.1.2; rw [rg] at this; exact this
    have ert : ∀ k, 0 ≤ k → k < K → E k (rt k) := fun k a b => by
      have z := e2 k a b
      rw [hr k a b] at z
      by_cases c : rt k = g
      · rw [if_pos c] at z; rw [c]; exact e1.2.2 _ _ _ z (e1.2.1 _ _ egy)
      · rw [if_neg c] at z; exact z
    have epq : E p q := by
      have z1 := ert p hp.1 hp.2
      have z2 := ert q hq.1 hq.2
      rcases hgy with ⟨a1, a2⟩ | ⟨a1, a2⟩
      · rw [a1] at z1; rw [a2] at z2
        exact e1.2.2 _ _ _ z1 (e1.2.2 _ _ _ egy (e1.2.1 _ _ z2))
      · rw [a1] at z1; rw [a2] at z2
        exact e1.2.2 _ _ _ z1 (e1.2.2 _ _ _ (e1.2.1 _ _ egy) (e1.2.1 _ _ z2))
    have hg := fun z => hG z E e1 e3 e4
    have h5 := h4 E e1 ert (fun a b z => by
      rcases hW a b z with ⟨z1, z2⟩ | z
      · rw [z1, z2]; exact epq
      · exact e3 a b z) (fun j z => by
      have z1 := e4 j (hP j z)
      obtain ⟨⟨j0, j1⟩, j2⟩ := h3 j z
      rw [hr j j0 j1] at z1
      by_cases c : rt j = g
      · rw [if_pos c] at z1
        have z2 := hg (by rw [← c]; exact (h2 j j0 j1 j2).2.2)
        rw [c]
        exact ⟨e1.2.2 _ _ _ z1.1 (e1.2.1 _ _ z2.1), e1.2.2 _ _ _ z1.2 (e1.2.1 _ _ z2.2)⟩
      · rw [if_neg c] at z1; exact z1)
    intro k a b c
    have z1 := h5 k a b c
    rw [hr k a b]
    by_cases c2 : rt k = g
    · rw [if_pos c2]
      rw [c2] at z1
      have z2 := hg (by rw [← c2]; exact (h2 k a b c).2.2)
      exact ⟨e1.2.2 _ _ _ z1.1 z2.1, e1.2.2 _ _ _ z1.2 z2.2⟩
    · rw [if_neg c2]; exact z1
/-- two that are one already: nothing waits there -/
theorem GI_skip {K no p q : Int} {L R rt : Int → Int} {W W' : Int → Int → Prop} {P : Int → Prop} (h : GI K no L R rt W P) (hp : 0 ≤ p ∧ p < K) (hq : 0 ≤ q ∧ q < K) (he : rt p = rt q) (hW : ∀ a b, W a b → (a = p ∧ b = q) ∨ W' a b) : GI K no L R rt W' P := by
  obtain ⟨h0, h1, h2, h3, h4⟩ := h
  refine ⟨h0, h1, h2, h3, fun E e1 e2 e3 e4 => h4 E e1 e2 (fun a b z => ?_) e4⟩
  rcases hW a b z with ⟨z1, z2⟩ | z
  · have y1 := e2 p hp.1 hp.2
    have y2 := e2 q hq.1 hq.2
    rw [z1, z2]
    rw [he] at y1
    exact e1.2.2 _ _ _ y1 (e1.2.1 _ _ y2)
  · exact e3 a b z
/-- a node that waits: its sides wait for the sides of what it is joined to -/
theorem GI_pop {K no j x : Int} {L R rt : Int → Int} {W W' : Int → Int → Prop} {P P' : Int → Prop} (h : GI K no L R rt W P) (hx : x = rt j) (hW : ∀ a b, W a b → W' a b) (h1 : W' (L j) (L x)) (h2 : W' (R j) (R x)) (hP : ∀ i, P i → i = j ∨ P' i) (hP' : ∀ i, P' i → P i) : GI K no L R rt W' P' := by
  obtain ⟨g0, g1, g2, g3, g4⟩ := h
  refine ⟨g0, g1, g2, fun i z => g3 i (hP' i z), fun E e1 e2 e3 e4 => g4 E e1 e2 (fun a b z => e3 a b (hW a b z)) (fun i z => ?_)⟩
  rcases hP i z with z | z
  · rw [z, ← hx]; exact ⟨e3 _ _ h1, e3 _ _ h2⟩
  · exact e4 i z
/-- what solves it, behind and ahead of a joining -/
theorem SOL_dn {K no p q g y : Int} {L R rt rt' : Int → Int} {t : Int → List Int} (h1 : ∀ k, 0 ≤ k → k < K → 0 ≤ rt k ∧ rt k < K ∧ rt (rt k) = rt k) (hp : 0 ≤ p ∧ p < K) (hq : 0 ≤ q ∧ q < K) (hgy : (rt p = g ∧ rt q = y) ∨ (rt p = y ∧ rt q = g)) (hr : ∀ k, 0 ≤ k → k < K → rt' k = if rt k = g then y else rt k) (s : SOL K no L R rt' t) : SOL K no L R rt t ∧ t p = t q := by
  have g0 : (0 ≤ g ∧ g < K) ∧ rt g = g := by
    rcases hgy with ⟨e1, e2⟩ | ⟨e1, e2⟩
    · have := h1 p hp.1 hp.2; rw [e1] at this; exact ⟨⟨this.1, this.2.1⟩, this.2.2⟩
    · have := h1 q hq.1 hq.2; rw [e2] at this; exact ⟨⟨this.1, this.2.1⟩, this.2.2⟩
  have egy : t y = t g := by have := (s g g0.1.1 g0.1.2).2.2; rw [hr g g0.1.1 g0.1.2, if_pos g0.2] at this; exact this
  have s1 : SOL K no L R rt t := fun k a b => by
    obtain ⟨s1, s2, s3⟩ := s k a b
    refine ⟨s1, s2, ?_⟩
    rw [hr k a b] at s3
    by_cases c : rt k = g
    · rw [if_pos c] at s3; rw [c, ← egy]; exact s3
    · rw [if_neg c] at s3; exact s3
  refine ⟨s1, ?_⟩
  have z1 := (s1 p hp.1 hp.2).2.2
  have z2 := (s1 q hq.1 hq.2).2.2
  rcases hgy with ⟨a1, a2⟩ | ⟨a1, a2⟩
  · rw [← z1, ← z2, a1, a2, egy]
  · rw [← z1, ← z2, a1, a2, egy]
theorem SOL_up {K no p q g y : Int} {L R rt rt' : Int → Int} {t : Int → List Int} (h1 : ∀ k, 0 ≤ k → k < K → 0 ≤ rt k ∧ rt k < K ∧ rt (rt k) = rt k) (hR : ∀ k, 0 ≤ k → k < K → L k ≠ no → (0 ≤ L k ∧ L k < K) ∧ (0 ≤ R k ∧ R k < K)) (hp : 0 ≤ p ∧ p < K) (hq : 0 ≤ q ∧ q < K) (hgy : (rt p = g ∧ rt q = y) ∨ (rt p = y ∧ rt q = g)) (hr : ∀ k, 0 ≤ k → k < K → rt' k = if rt k = g then y else rt k) (s : SOL K no L R rt t) (e : t p = t q) : SOL K no L R rt' t ∧ (L g ≠ no → L y ≠ no → t (L g) = t (L y) ∧ t (R g) = t (R y)) := by
  have z1 := (s p hp.1 hp.2).2.2
  have z2 := (s q hq.1 hq.2).2.2
  have egy : t g = t y := by
    rcases hgy with ⟨a1, a2⟩ | ⟨a1, a2⟩
    · rw [← a1, ← a2, z1, z2]; exact e
    · rw [← a1, ← a2, z1, z2]; exact e.symm
  have g0 : (0 ≤ g ∧ g < K) ∧ (0 ≤ y ∧ y < K) := by
    have u1 := h1 p hp.1 hp.2
    have u2 := h1 q hq.1 hq.2
    rcases hgy with ⟨e1, e2⟩ | ⟨e1, e2⟩
    · rw [e1] at u1; rw [e2] at u2; exact ⟨⟨u1.1, u1.2.1⟩, u2.1, u2.2.1⟩
    · rw [e1] at u1; rw [e2] at u2; exact ⟨⟨u2.1, u2.2.1⟩, u1.1, u1.2.1⟩
  refine ⟨fun k a b => ?_, fun c1 c2 => ?_⟩
  · obtain ⟨s1, s2, s3⟩ := s k a b
    refine ⟨s1, s2, ?_⟩
    rw [hr k a b]
    by_cases c : rt k = g
    · rw [if_pos c, ← egy, ← c]; exact s3
    · rw [if_neg c]; exact s3
  · have y1 := (s g g0.1.1 g0.1.2).2.1 c1
    have y2 := (s y g0.2.1 g0.2.2).2.1 c2
    have r1 := hR g g0.1.1 g0.1.2 c1
    have r2 := hR y g0.2.1 g0.2.2 c2
    rw [egy, y2] at y1
    have y3 := ty_inj (s _ r2.1.1 r2.1.2).1 (s _ r1.1.1 r1.1.2).1 y1
    exact ⟨y3.1.symm, y3.2.symm⟩
theorem SOL_cg {K no : Int} {L R rt L' R' rt' : Int → Int} {t t' : Int → List Int} (h1 : ∀ k, 0 ≤ k → k < K → 0 ≤ rt k ∧ rt k < K) (hR : ∀ k, 0 ≤ k → k < K → L k ≠ no → (0 ≤ L k ∧ L k < K) ∧ (0 ≤ R k ∧ R k < K)) (hL : ∀ k, 0 ≤ k → k < K → L' k = L k ∧ R' k = R k ∧ rt' k = rt k) (ht : ∀ k, 0 ≤ k → k < K → t' k = t k) (s : SOL K no L R rt t) : SOL K no L' R' rt' t' := by
  intro k a b
  obtain ⟨s1, s2, s3⟩ := s k a b
  obtain ⟨l1, l2, l3⟩ := hL k a b
  rw [l1, l2, l3, ht k a b]
  refine ⟨s1, fun c => ?_, ?_⟩
  · obtain ⟨r1, r2⟩ := hR k a b c
    rw [ht _ r1.1 r1.2, ht _ r2.1 r2.2]; exact s2 c
  · obtain ⟨r1, r2⟩ := h1 k a b
    rw [ht _ r1 r2]; exact s3
theorem SOL_new {K no : Int} {L R rt L' R' rt' : Int → Int} {t : Int → List Int} (h1 : ∀ k, 0 ≤ k → k < K → 0 ≤ rt k ∧ rt k < K) (hR : ∀ k, 0 ≤ k → k < K → L k ≠ no → (0 ≤ L k ∧ L k < K) ∧ (0 ≤ R k ∧ R k < K)) (hL : ∀ k, 0 ≤ k → k < K → L' k = L k ∧ R' k = R k ∧ rt' k = rt k) (hr : rt' K = K) (h0 : 0 ≤ K) : SOL (K + 1) no L' R' rt' t ↔ (SOL K no L R rt t ∧ ty (t K) ∧ (L' K ≠ no → t K = 0 :: (t (L' K) ++ t (R' K)))) := by
  constructor
  · intro s
    refine ⟨fun k a b => ?_, (s K h0 (by omega)).1, (s K h0 (by omega)).2.1⟩
    have z := s k a (by omega)
    obtain ⟨l1, l2, l3⟩ := hL k a b
    rw [l1, l2, l3] at z
    exact z
  · rintro ⟨s, s1, s2⟩ k a b
    by_cases c : k = K
    · subst c; exact ⟨s1, s2, by rw [hr]⟩
    · have z := s k a (by omega)
      obtain ⟨l1, l2, l3⟩ := hL k a (by omega)
      rw [l1, l2, l3]
      exact z
