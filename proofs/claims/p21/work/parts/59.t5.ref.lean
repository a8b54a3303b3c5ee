/-! THE REFERENCE's kinds: what became of each, what solves them: pure -/
def BR (B : Int → Int) (K : Int) (rt : Int → Int) : Prop := ∀ k, 0 ≤ k → k < K → B (rt k) = -4 ∧ (B k = -4 → rt k = k) ∧ (B k ≠ -4 → rt (B k) = rt k)
def GS (B l r : Int → Int) (K : Int) (rt : Int → Int) : Prop := FI B l r K ∧ BR B K rt ∧ GI K (-4) l r rt noW noP
theorem GS_0 {B l r rt : Int → Int} : GS B l r 0 rt := ⟨⟨Int.le_refl 0, fun k a b => by omega, fun _ => 0, 0, fun k a b => by omega⟩, fun k a b => by omega, GI_0⟩
theorem GI_rg {K no : Int} {L R rt : Int → Int} {W : Int → Int → Prop} {P : Int → Prop} (h : GI K no L R rt W P) : (∀ k, 0 ≤ k → k < K → 0 ≤ rt k ∧ rt k < K) ∧ ∀ k, 0 ≤ k → k < K → L k ≠ no → (0 ≤ L k ∧ L k < K) ∧ (0 ≤ R k ∧ R k < K) := ⟨fun k a b => ⟨(h.2.1 k a b).1, (h.2.1 k a b).2.1⟩, fun k a b c => ⟨(h.2.2.1 k a b c).1, (h.2.2.1 k a b c).2.1⟩⟩
theorem SOL_upd {K no K' : Int} {L R rt : Int → Int} {t : Int → List Int} {v : List Int} (hK : K ≤ K') (h1 : ∀ k, 0 ≤ k → k < K → 0 ≤ rt k ∧ rt k < K) (hR : ∀ k, 0 ≤ k → k < K → L k ≠ no → (0 ≤ L k ∧ L k < K) ∧ (0 ≤ R k ∧ R k < K)) (s : SOL K no L R rt t) : SOL K no L R rt (fun k => if k = K' then v else t k) := SOL_cg h1 hR (fun k _ _ => ⟨rfl, rfl, rfl⟩) (fun k a b => if_neg (by omega)) s
theorem BR_new {B B' rt : Int → Int} {K : Int} (h : BR B K rt) (hr : ∀ k, 0 ≤ k → k < K → 0 ≤ rt k ∧ rt k < K) (hF : ∀ k, 0 ≤ k → k < K → B k = -4 ∨ (0 ≤ B k ∧ B k < K)) (hB : ∀ k, 0 ≤ k → k < K → B' k = B k) (hK : B' K = -4) : BR B' (K + 1) (updI rt K K) := by
  intro k a b
  by_cases c : k = K
  · subst c
    rw [updI_s]
    exact ⟨hK, fun _ => rfl, fun z => absurd hK z⟩
  · obtain ⟨h1, h2, h3⟩ := h k a (by omega)
    have r := hr k a (by omega)
    rw [updI_n _ _ c, hB _ r.1 r.2, hB k a (by omega)]
    refine ⟨h1, h2, fun z => ?_⟩
    rcases hF k a (by omega) with y | y
    · exact absurd y z
    · rw [updI_n _ _ (by omega)]
      exact h3 z
theorem GS_any {B l r rt : Int → Int} {K : Int} (h : GS B l r K rt) : GS (updI B K (-4)) (updI l K (-4)) r (K + 1) (updI rt K K) ∧ opA (SOL K (-4) l r rt) (SOL (K + 1) (-4) (updI l K (-4)) r (updI rt K K)) K := by
  obtain ⟨h1, h2, h3⟩ := h
  have h0 := h1.1
  obtain ⟨g1, g2⟩ := GI_rg h3
  have hL : ∀ k, 0 ≤ k → k < K → updI l K (-4) k = l k ∧ r k = r k ∧ updI rt K K k = rt k := fun k a b => ⟨updI_n _ _ (by omega), rfl, updI_n _ _ (by omega)⟩
  have hS : ∀ t, SOL (K + 1) (-4) (updI l K (-4)) r (updI rt K K) t ↔ (SOL K (-4) l r rt t ∧ ty (t K)) := fun t => by
    rw [SOL_new g1 g2 hL (updI_s _ _ _) h0]
    constructor
    · rintro ⟨a, b, _⟩; exact ⟨a, b⟩
    · rintro ⟨a, b⟩; exact ⟨a, b, fun c => absurd (updI_s _ _ _) c⟩
  refine ⟨⟨FI_any h1, BR_new h2 g1 (fun k a b => (h1.2.1 k a b).1) (fun k a b => updI_n _ _ (by omega)) (updI_s _ _ _), GI_new h3 hL (Or.inl (updI_s _ _ _)) (updI_s _ _ _)⟩, hS, fun t v s tv => ?_⟩
  refine ⟨fun k => if k = K then v else t k, (hS _).mpr ⟨SOL_upd (Int.le_refl _) g1 g2 s, ?_⟩, fun k a b => if_neg (by omega), if_pos rfl⟩
  show ty (if K = K then v else t K)
  rw [if_pos rfl]; exact tv
theorem GS_arrow {B l r rt l' : Int → Int} {K x y : Int} (h : GS B l r K rt) (hx : 0 ≤ x ∧ x < K) (hy : 0 ≤ y ∧ y < K) (hl : l' = updI (updI l K (-4)) K x) : GS (updI B K (-4)) l' (updI r K y) (K + 1) (updI rt K K) ∧ opR (SOL K (-4) l r rt) (SOL (K + 1) (-4) l' (updI r K y) (updI rt K K)) K x y := by
  subst hl
  obtain ⟨h1, h2, h3⟩ := h
  have h0 := h1.1
  obtain ⟨g1, g2⟩ := GI_rg h3
  have hL : ∀ k, 0 ≤ k → k < K → updI (updI l K (-4)) K x k = l k ∧ updI r K y k = r k ∧ updI rt K K k = rt k := fun k a b => ⟨by rw [updI_n _ _ (by omega), updI_n _ _ (by omega)], updI_n _ _ (by omega), updI_n _ _ (by omega)⟩
  have hS : ∀ t, SOL (K + 1) (-4) (updI (updI l K (-4)) K x) (updI r K y) (updI rt K K) t ↔ (SOL K (-4) l r rt t ∧ t K = arw (t x) (t y)) := fun t => by
    rw [SOL_new g1 g2 hL (updI_s _ _ _) h0, updI_s, updI_s]
    constructor
    · rintro ⟨a, b, c⟩; exact ⟨a, c (by omega)⟩
    · rintro ⟨a, b⟩; exact ⟨a, by rw [b]; exact ty_arw (a x hx.1 hx.2).1 (a y hy.1 hy.2).1, fun _ => b⟩
  refine ⟨⟨FI_arrow h1 hx hy, BR_new h2 g1 (fun k a b => (h1.2.1 k a b).1) (fun k a b => updI_n _ _ (by omega)) (updI_s _ _ _), GI_new h3 hL (Or.inr (by rw [updI_s, updI_s]; exact ⟨hx, hy⟩)) (updI_s _ _ _)⟩, hS, fun t s => ?_⟩
  refine ⟨fun k => if k = K then arw (t x) (t y) else t k, (hS _).mpr ⟨SOL_upd (Int.le_refl _) g1 g2 s, ?_⟩, fun k a b => if_neg (by omega)⟩
  show (if K = K then arw (t x) (t y) else t K) = arw (if x = K then arw (t x) (t y) else t x) (if y = K then arw (t x) (t y) else t y)
  rw [if_pos rfl, if_neg (by omega), if_neg (by omega)]
theorem BR_link {B rt : Int → Int} {K g y : Int} (h : BR B K rt) (hr : ∀ k, 0 ≤ k → k < K → 0 ≤ rt k ∧ rt k < K ∧ rt (rt k) = rt k) (hF : ∀ k, 0 ≤ k → k < K → B k = -4 ∨ (0 ≤ B k ∧ B k < K)) (hg : 0 ≤ g ∧ g < K) (hy : 0 ≤ y ∧ y < K) (ne : g ≠ y) (bg : B g = -4) (by_ : B y = -4) : BR (updI B g y) K (fun k => if rt k = g then y else rt k) := by
  have rg := (h g hg.1 hg.2).2.1 bg
  have ry := (h y hy.1 hy.2).2.1 by_
  intro k a b
  obtain ⟨h1, h2, h3⟩ := h k a b
  refine ⟨?_, fun z => ?_, fun z => ?_⟩
  · show updI B g y (if rt k = g then y else rt k) = -4
    by_cases c : rt k = g
    · rw [if_pos c, updI_n _ _ (by omega)]; exact by_
    · rw [if_neg c, updI_n _ _ c]; exact h1
  · show (if rt k = g then y else rt k) = k
    by_cases c : k = g
    · subst c; rw [updI_s] at z; omega
    · rw [updI_n _ _ c] at z
      have := h2 z
      rw [if_neg (by omega)]; exact this
  · show (if rt (updI B g y k) = g then y else rt (updI B g y k)) = (if rt k = g then y else rt k)
    by_cases c : k = g
    · subst c
      rw [updI_s, if_neg (by omega), if_pos rg]; exact ry
    · rw [updI_n _ _ c] at z ⊢
      rw [h3 z]
def WW (f s : Int → Int) (w : Int) : Int → Int → Prop := fun p q => ∃ j, 0 ≤ j ∧ j < w ∧ p = f j ∧ q = s j
def EQ9 (f s : Int → Int) (w : Int) (t : Int → List Int) : Prop := ∀ j, 0 ≤ j → j < w → t (f j) = t (s j)
def UI (K : Int) (B l r rt f s : Int → Int) (w : Int) (X : (Int → List Int) → Prop) : Prop := BR B K rt ∧ GI K (-4) l r rt (WW f s w) noP ∧ ∀ t, X t ↔ (SOL K (-4) l r rt t ∧ EQ9 f s w t)
section
variable {K : Int} {B l r rt f s : Int → Int} {w : Int} {X : (Int → List Int) → Prop} {x y : Int}
theorem UI_skip (h : UI K B l r rt f s w X) (hw : 0 < w) (hp : 0 ≤ f (w + -1) ∧ f (w + -1) < K) (hq : 0 ≤ s (w + -1) ∧ s (w + -1) < K) (e : rt (f (w + -1)) = rt (s (w + -1))) : UI K B l r rt f s (w + -1) X := by
  obtain ⟨h1, h2, h3⟩ := h
  refine ⟨h1, GI_skip h2 hp hq e (fun a b ⟨j, j0, j1, ja, jb⟩ => ?_), fun t => ?_⟩
  · by_cases c : j = w + -1
    · rw [c] at ja jb; exact Or.inl ⟨ja, jb⟩
    · exact Or.inr ⟨j, j0, by omega, ja, jb⟩
  · rw [h3 t]
    constructor
    · rintro ⟨a, b⟩; exact ⟨a, fun j j0 j1 => b j j0 (by omega)⟩
    · rintro ⟨a, b⟩
      refine ⟨a, fun j j0 j1 => ?_⟩
      by_cases c : j = w + -1
      · rw [c, ← (a _ hp.1 hp.2).2.2, ← (a _ hq.1 hq.2).2.2, e]
      · exact b j j0 (by omega)
theorem UI_one {g t0 : Int} (h : UI K B l r rt f s w X) (hF : FI B l r K) (hw : 0 < w) (hp : 0 ≤ f (w + -1) ∧ f (w + -1) < K) (hq : 0 ≤ s (w + -1) ∧ s (w + -1) < K) (hgy : (rt (f (w + -1)) = g ∧ rt (s (w + -1)) = t0) ∨ (rt (f (w + -1)) = t0 ∧ rt (s (w + -1)) = g)) (ne : g ≠ t0) (hl : l g = -4) : ∃ rt', UI K (updI B g t0) l r rt' f s (w + -1) X := by
  obtain ⟨h1, h2, h3⟩ := h
  have hrt := h2.2.1
  have p1 := hrt _ hp.1 hp.2
  have q1 := hrt _ hq.1 hq.2
  have b1 := (h1 _ hp.1 hp.2).1
  have b2 := (h1 _ hq.1 hq.2).1
  have hg : ((0 ≤ g ∧ g < K) ∧ B g = -4) ∧ ((0 ≤ t0 ∧ t0 < K) ∧ B t0 = -4) := by
    rcases hgy with ⟨e1, e2⟩ | ⟨e1, e2⟩ <;> rw [e1] at p1 b1 <;> rw [e2] at q1 b2
    · exact ⟨⟨⟨p1.1, p1.2.1⟩, b1⟩, ⟨q1.1, q1.2.1⟩, b2⟩
    · exact ⟨⟨⟨q1.1, q1.2.1⟩, b2⟩, ⟨p1.1, p1.2.1⟩, b1⟩
  refine ⟨fun k => if rt k = g then t0 else rt k, BR_link h1 hrt (fun k a b => (hF.2.1 k a b).1) hg.1.1 hg.2.1 ne hg.1.2 hg.2.2, GI_link h2 hp hq hgy ne (fun z => absurd hl z) (fun k a b => rfl) (fun a b ⟨j, j0, j1, ja, jb⟩ => ?_) (fun _ z => z) (fun _ z => z.elim) (fun z => absurd hl z), fun t => ?_⟩
  · by_cases c : j = w + -1
    · rw [c] at ja jb; exact Or.inl ⟨ja, jb⟩
    · exact Or.inr ⟨j, j0, by omega, ja, jb⟩
  · rw [h3 t]
    constructor
    · rintro ⟨a, b⟩
      exact ⟨(SOL_up hrt (GI_rg h2).2 hp hq hgy (fun k _ _ => rfl) a (b (w + -1) (by omega) (by omega))).1, fun j j0 j1 => b j j0 (by omega)⟩
    · rintro ⟨a, b⟩
      obtain ⟨a1, a2⟩ := SOL_dn hrt hp hq hgy (fun k _ _ => rfl) a
      refine ⟨a1, fun j j0 j1 => ?_⟩
      by_cases c : j = w + -1
      · rw [c]; exact a2
      · exact b j j0 (by omega)
theorem UI_two (h : UI K B l r rt f s w X) (hF : FI B l r K) (hw : 0 < w) (hp : 0 ≤ f (w + -1) ∧ f (w + -1) < K) (hq : 0 ≤ s (w + -1) ∧ s (w + -1) < K) (ex : rt (f (w + -1)) = x) (ey : rt (s (w + -1)) = y) (ne : x ≠ y) (hx : l x ≠ -4) (hy : l y ≠ -4) : ∃ rt', UI K (updI B y x) l r rt' (updI (updI f (w + -1) (l x)) (w + -1 + 1) (r x)) (updI (updI s (w + -1) (l y)) (w + -1 + 1) (r y)) (w + -1 + 2) X := by
  obtain ⟨h1, h2, h3⟩ := h
  have hrt := h2.2.1
  have p1 := hrt _ hp.1 hp.2
  have q1 := hrt _ hq.1 hq.2
  have b1 := (h1 _ hp.1 hp.2).1
  have b2 := (h1 _ hq.1 hq.2).1
  rw [ex] at p1 b1
  rw [ey] at q1 b2
  have hgy : (rt (f (w + -1)) = y ∧ rt (s (w + -1)) = x) ∨ (rt (f (w + -1)) = x ∧ rt (s (w + -1)) = y) := Or.inr ⟨ex, ey⟩
  have e1 : updI (updI f (w + -1) (l x)) (w + -1 + 1) (r x) (w + -1) = l x := by rw [updI_n _ _ (by omega), updI_s]
  have e2 : updI (updI s (w + -1) (l y)) (w + -1 + 1) (r y) (w + -1) = l y := by rw [updI_n _ _ (by omega), updI_s]
  have e3 : updI (updI f (w + -1) (l x)) (w + -1 + 1) (r x) (w + -1 + 1) = r x := updI_s _ _ _
  have e4 : updI (updI s (w + -1) (l y)) (w + -1 + 1) (r y) (w + -1 + 1) = r y := updI_s _ _ _
  have e5 : ∀ j, j < w + -1 → updI (updI f (w + -1) (l x)) (w + -1 + 1) (r x) j = f j := fun j hj => by rw [updI_n _ _ (by omega), updI_n _ _ (by omega)]
  have e6 : ∀ j, j < w + -1 → updI (updI s (w + -1) (l y)) (w + -1 + 1) (r y) j = s j := fun j hj => by rw [updI_n _ _ (by omega), updI_n _ _ (by omega)]
  refine ⟨fun k => if rt k = y then x else rt k, BR_link h1 hrt (fun k a b => (hF.2.1 k a b).1) ⟨q1.1, q1.2.1⟩ ⟨p1.1, p1.2.1⟩ (fun z => ne z.symm) b2 b1, GI_link h2 hp hq hgy (fun z => ne z.symm) (fun _ => hx) (fun k a b => rfl) (fun a b ⟨j, j0, j1, ja, jb⟩ => ?_) (fun _ z => z) (fun _ z => z.elim) (fun _ E ev ew _ => ?_), fun t => ?_⟩
  · by_cases c : j = w + -1
    · rw [c] at ja jb; exact Or.inl ⟨ja, jb⟩
    · exact Or.inr ⟨j, j0, by omega, by rw [e5 j (by omega)]; exact ja, by rw [e6 j (by omega)]; exact jb⟩
  · exact ⟨ev.2.1 _ _ (ew _ _ ⟨w + -1, by omega, by omega, e1.symm, e2.symm⟩), ev.2.1 _ _ (ew _ _ ⟨w + -1 + 1, by omega, by omega, e3.symm, e4.symm⟩)⟩
  · rw [h3 t]
    constructor
    · rintro ⟨a, b⟩
      obtain ⟨a1, a2⟩ := SOL_up hrt (GI_rg h2).2 hp hq hgy (fun k _ _ => rfl) a (b (w + -1) (by omega) (by omega))
      obtain ⟨a3, a4⟩ := a2 hy hx
      refine ⟨a1, fun j j0 j1 => ?_⟩
      by_cases c : j = w + -1
      · rw [c, e1, e2]; exact a3.symm
      · by_cases c2 : j = w + -1 + 1
        · rw [c2, e3, e4]; exact a4.symm
        · rw [e5 j (by omega), e6 j (by omega)]; exact b j j0 (by omega)
    · rintro ⟨a, b⟩
      obtain ⟨a1, a2⟩ := SOL_dn hrt hp hq hgy (fun k _ _ => rfl) a
      refine ⟨a1, fun j j0 j1 => ?_⟩
      by_cases c : j = w + -1
      · rw [c]; exact a2
      · have := b j j0 (by omega)
        rw [e5 j (by omega), e6 j (by omega)] at this; exact this
theorem UI_end (h : UI K B l r rt f s 0 X) (hF : FI B l r K) : GS B l r K rt ∧ ∀ t, SOL K (-4) l r rt t ↔ X t := by
  obtain ⟨h1, h2, h3⟩ := h
  refine ⟨⟨hF, h1, ?_⟩, fun t => ?_⟩
  · obtain ⟨g0, g1, g2, g3, g4⟩ := h2
    exact ⟨g0, g1, g2, g3, fun E e1 e2 e3 e4 => g4 E e1 e2 (fun a b ⟨j, j0, j1, _⟩ => by omega) e4⟩
  · rw [h3 t]
    exact ⟨fun a => ⟨a, fun j j0 j1 => by omega⟩, fun a => a.1⟩
theorem UI_beg {x0 y0 : Int} (h : GS B l r K rt) (h1 : f 0 = x0) (h2 : s 0 = y0) : UI K B l r rt f s 1 (fun t => SOL K (-4) l r rt t ∧ t x0 = t y0) := by
  obtain ⟨_, g2, g3⟩ := h
  refine ⟨g2, GI_cg g3 (fun _ _ _ => ⟨rfl, rfl, rfl⟩) (fun _ _ z => z.elim) (fun _ z => z) (fun _ z => z.elim), fun t => ?_⟩
  constructor
  · rintro ⟨a, b⟩
    refine ⟨a, fun j j0 j1 => ?_⟩
    rw [show j = 0 by omega, h1, h2]; exact b
  · rintro ⟨a, b⟩
    have := b 0 (by omega) (by omega)
    rw [h1, h2] at this
    exact ⟨a, this⟩
end
