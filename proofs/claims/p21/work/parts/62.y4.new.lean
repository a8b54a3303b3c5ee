/-! THE CLASS: a node more: pure -/
theorem GC_0 {F G lk rt : Int → Int} : GC 0 F G lk rt := ⟨LR_0, GI_0⟩
theorem GC_any {F G lk rt : Int → Int} {K : Int} (h : GC K F G lk rt) : GC (K + 1) (updI F K (-1)) (updI G K (-1)) (updI lk K K) (updI rt K K) ∧ opA (SOL K (-1) F G rt) (SOL (K + 1) (-1) (updI F K (-1)) (updI G K (-1)) (updI rt K K)) K := by
  obtain ⟨h1, h3⟩ := h
  have h0 := h3.1
  obtain ⟨g1, g2⟩ := GI_rg h3
  have hL : ∀ k, 0 ≤ k → k < K → updI F K (-1) k = F k ∧ updI G K (-1) k = G k ∧ updI rt K K k = rt k := fun k a b => ⟨updI_n _ _ (by omega), updI_n _ _ (by omega), updI_n _ _ (by omega)⟩
  have hS : ∀ t, SOL (K + 1) (-1) (updI F K (-1)) (updI G K (-1)) (updI rt K K) t ↔ (SOL K (-1) F G rt t ∧ ty (t K)) := fun t => by
    rw [SOL_new g1 g2 hL (updI_s _ _ _) h0]
    constructor
    · rintro ⟨a, b, _⟩; exact ⟨a, b⟩
    · rintro ⟨a, b⟩; exact ⟨a, b, fun c => absurd (updI_s _ _ _) c⟩
  refine ⟨⟨LR_new h1 h0 g1, GI_new h3 hL (Or.inl (updI_s _ _ _)) (updI_s _ _ _)⟩, hS, fun t v s tv => ?_⟩
  refine ⟨fun k => if k = K then v else t k, (hS _).mpr ⟨SOL_upd (Int.le_refl _) g1 g2 s, ?_⟩, fun k a b => if_neg (by omega), if_pos rfl⟩
  show ty (if K = K then v else t K)
  rw [if_pos rfl]; exact tv
theorem GC_arrow {F G lk rt : Int → Int} {K x y : Int} (h : GC K F G lk rt) (hx : 0 ≤ x ∧ x < K) (hy : 0 ≤ y ∧ y < K) : GC (K + 1) (updI F K x) (updI G K y) (updI lk K K) (updI rt K K) ∧ opR (SOL K (-1) F G rt) (SOL (K + 1) (-1) (updI F K x) (updI G K y) (updI rt K K)) K x y := by
  obtain ⟨h1, h3⟩ := h
  have h0 := h3.1
  obtain ⟨g1, g2⟩ := GI_rg h3
  have hL : ∀ k, 0 ≤ k → k < K → updI F K x k = F k ∧ updI G K y k = G k ∧ updI rt K K k = rt k := fun k a b => ⟨updI_n _ _ (by omega), updI_n _ _ (by omega), updI_n _ _ (by omega)⟩
  have hS : ∀ t, SOL (K + 1) (-1) (updI F K x) (updI G K y) (updI rt K K) t ↔ (SOL K (-1) F G rt t ∧ t K = arw (t x) (t y)) := fun t => by
    rw [SOL_new g1 g2 hL (updI_s _ _ _) h0, updI_s, updI_s]
    constructor
    · rintro ⟨a, b, c⟩; exact ⟨a, c (by omega)⟩
    · rintro ⟨a, b⟩; exact ⟨a, by rw [b]; exact ty_arw (a x hx.1 hx.2).1 (a y hy.1 hy.2).1, fun _ => b⟩
  refine ⟨⟨LR_new h1 h0 g1, GI_new h3 hL (Or.inr (by rw [updI_s, updI_s]; exact ⟨hx, hy⟩)) (updI_s _ _ _)⟩, hS, fun t s => ?_⟩
  refine ⟨fun k => if k = K then arw (t x) (t y) else t k, (hS _).mpr ⟨SOL_upd (Int.le_refl _) g1 g2 s, ?_⟩, fun k a b => if_neg (by omega)⟩
  show (if K = K then arw (t x) (t y) else t K) = arw (if x = K then arw (t x) (t y) else t x) (if y = K then arw (t x) (t y) else t y)
  rw [if_pos rfl, if_neg (by omega), if_neg (by omega)]
