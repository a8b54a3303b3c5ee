/-! TYPING, step by step: from the right (the reference), from the left (the class): pure -/
theorem FO9_app {g D : Int → Int} {z p : Int} {n : Nat} (h : FO9 g D z (n + 1) p) (h0 : g p = 0) : FO9 g D z (n + 2) (p + 1) ∧ D (p + 1) = D p ∧ ∀ m, (∃ f k, tm g f k (p + 1) m) → D m = D p := by
  obtain ⟨p0, p1, e, f, f', k', t, d, d0, d1, h2⟩ := h
  obtain ⟨f1, m, t1, t2, _⟩ := tm_app t h0
  obtain ⟨f3, m', u1, u2⟩ := dpa9 d h0
  have hm := dp_tm_end t1 u1
  subst hm
  have a1 := dp_head u1
  have a2 := dp_head u2
  have l1 := tm_lt t1
  have l2 := tm_lt t2
  have lz : e ≤ z := by
    cases n with
    | zero => have : e = z := h2; omega
    | succ n => have := h2.2.1; omega
  refine ⟨⟨by omega, by omega, m, f3, f1, k', t1, by rw [a1]; exact u1, by omega, fun _ => by omega, by omega, by omega, e, f3, f1, k', t2, by rw [a2]; exact u2, by omega, fun c => by have := d1 c; omega, h2⟩, a1, fun m2 ⟨f5, k5, t5⟩ => ?_⟩
  rw [← tm_one t1 t5]
  exact a2
theorem FO9_lam {g D : Int → Int} {z p : Int} {n : Nat} (h : FO9 g D z (n + 1) p) (h0 : g p = 1) : FO9 g D z (n + 1) (p + 1) ∧ D (p + 1) = D p + 1 := by
  obtain ⟨p0, p1, e, f, f', k', t, d, d0, d1, h2⟩ := h
  obtain ⟨f1, t1, _⟩ := tm_lam t h0
  obtain ⟨f3, u1⟩ := dpl9 d h0
  have a1 := dp_head u1
  have l1 := tm_lt t1
  have lz : e ≤ z := by
    cases n with
    | zero => have : e = z := h2; omega
    | succ n => have := h2.2.1; omega
  exact ⟨⟨by omega, by omega, e, f3, f1, k' + 1, t1, by rw [a1]; exact u1, by omega, fun c => by have := d1 c; omega, h2⟩, a1⟩
theorem FO9_leaf {g D : Int → Int} {z p : Int} {n : Nat} (h : FO9 g D z (n + 1) p) (h0 : 2 ≤ g p) : FO9 g D z n (p + 1) ∧ (n ≠ 0 → D (p + 1) ≤ D p) := by
  obtain ⟨p0, p1, e, f, f', k', t, d, d0, d1, h2⟩ := h
  have := (tm_lf t h0).1
  subst this
  exact ⟨h2, d1⟩
def OP9 (g lt : Int → Int) (i k : Int) : Prop := k = 0 ∨ ∃ q, 0 ≤ q ∧ q < i ∧ g q = 1 ∧ k = lt q
theorem OP9_up {g lt : Int → Int} {i k : Int} (h : OP9 g lt i k) : OP9 g lt (i + 1) k := by
  rcases h with h | ⟨q, a, b, c, e⟩
  · exact Or.inl h
  · exact Or.inr ⟨q, a, by omega, c, e⟩
def RI9 (g : Int → Int) (cx : Int → List Int) (lt : Int → Int) (n : Int) (S : (Int → List Int) → Prop) (ws : List Int) (i : Int) : Prop := (∀ t, S t → HF g cx n t (t 0) (ws.map t) i) ∧ (∀ τ us, (∀ k, ty (τ k)) → (∀ u ∈ us, ty u) → us.length = ws.length → HF g cx n τ (τ 0) us i → ∃ t, S t ∧ (∀ k, OP9 g lt i k → t k = τ k) ∧ ws.map t = us)
section
variable {g : Int → Int} {cx : Int → List Int} {lt : Int → Int} {n i K r : Int} {S S' : (Int → List Int) → Prop} {ws : List Int}
theorem RI_leaf (h : RI9 g cx lt n S ws (i + 1)) (h2 : 2 ≤ g i) (hw : ∀ w ∈ ws, 0 ≤ w ∧ w < K) (hop : ∀ k, OP9 g lt (i + 1) k → 0 ≤ k ∧ k < K) (hcx : ∀ x ∈ cx i, OP9 g lt i x) (ha : ∀ t, S' t → S t ∧ lt9 (g i) ((cx i).map t) (t 0) (t r)) (hb : ∀ t u, S t → ty u → lt9 (g i) ((cx i).map t) (t 0) u → ∃ t', S' t' ∧ (∀ k, 0 ≤ k → k < K → t' k = t k) ∧ t' r = u) : RI9 g cx lt n S' (r :: ws) i := by
  refine ⟨fun t st => ?_, fun τ us h3 h4 h5 h6 => ?_⟩
  · obtain ⟨s1, s2⟩ := ha t st
    rw [List.map_cons]
    exact (HF_leaf h2).mpr ⟨s2, h.1 t s1⟩
  · cases us with
    | nil => simp at h5
    | cons u us =>
      obtain ⟨l1, l2⟩ := (HF_leaf h2).mp h6
      obtain ⟨t, s1, s2, s3⟩ := h.2 τ us h3 (fun v hv => h4 v (List.mem_cons_of_mem _ hv)) (by simpa using h5) l2
      have e1 : (cx i).map t = (cx i).map τ := List.map_congr_left (fun x hx => s2 x (OP9_up (hcx x hx)))
      have e2 : t 0 = τ 0 := s2 0 (Or.inl rfl)
      obtain ⟨t', y1, y2, y3⟩ := hb t u s1 (h4 u List.mem_cons_self) (by rw [e1, e2]; exact l1)
      refine ⟨t', y1, fun k hk => ?_, ?_⟩
      · have := hop k (OP9_up hk)
        rw [y2 k this.1 this.2, s2 k (OP9_up hk)]
      · rw [List.map_cons, y3, ← s3]
        exact congrArg (List.cons u) (List.map_congr_left (fun x hx => y2 x (hw x hx).1 (hw x hx).2))
theorem RI_app {f a e : Int} (h : RI9 g cx lt n S (f :: a :: ws) (i + 1)) (ht : ∃ f k, tm g f k i e) (h0 : g i = 0) (hc1 : cx (i + 1) = cx i) (hc2 : ∀ m, (∃ f k, tm g f k (i + 1) m) → cx m = cx i) (hy : ∀ t, S t → ty (t a)) (hw : ∀ w ∈ ws, 0 ≤ w ∧ w < K) (hop : ∀ k, OP9 g lt (i + 1) k → 0 ≤ k ∧ k < K) (ha : ∀ t, S' t → S t ∧ t f = arw (t a) (t r)) (hb : ∀ t u, S t → ty u → t f = arw (t a) u → ∃ t', S' t' ∧ (∀ k, 0 ≤ k → k < K → t' k = t k) ∧ t' r = u) : RI9 g cx lt n S' (r :: ws) i := by
  refine ⟨fun t st => ?_, fun τ us h3 h4 h5 h6 => ?_⟩
  · obtain ⟨s1, s2⟩ := ha t st
    rw [List.map_cons]
    refine (HF_app ht h0 hc1 hc2).mpr ⟨t a, hy t s1, ?_⟩
    have := h.1 t s1
    rw [List.map_cons, List.map_cons, s2] at this
    exact this
  · cases us with
    | nil => simp at h5
    | cons u us =>
      obtain ⟨a0, l1, l2⟩ := (HF_app ht h0 hc1 hc2).mp h6
      have hu := h4 u List.mem_cons_self
      obtain ⟨t, s1, s2, s3⟩ := h.2 τ (arw a0 u :: a0 :: us) h3 (fun v hv => by
        rcases List.mem_cons.mp hv with hv | hv
        · rw [hv]; exact ty_arw l1 hu
        · rcases List.mem_cons.mp hv with hv | hv
          · rw [hv]; exact l1
          · exact h4 v (List.mem_cons_of_mem _ hv)) (by simp at h5 ⊢; exact h5) l2
      rw [List.map_cons, List.map_cons] at s3
      obtain ⟨e1, s3⟩ := List.cons.inj s3
      obtain ⟨e2, s3⟩ := List.cons.inj s3
      obtain ⟨t', y1, y2, y3⟩ := hb t u s1 hu (by rw [e1, e2])
      refine ⟨t', y1, fun k hk => ?_, ?_⟩
      · have := hop k (OP9_up hk)
        rw [y2 k this.1 this.2, s2 k (OP9_up hk)]
      · rw [List.map_cons, y3, ← s3]
        exact congrArg (List.cons u) (List.map_congr_left (fun x hx => y2 x (hw x hx).1 (hw x hx).2))
theorem RI_lam {D : Int → Int} {b : Int} (h : RI9 g cx lt n S (b :: ws) (i + 1)) (h0 : g i = 1) (i0 : 0 ≤ i) (hf : FO9 g D n (ws.length + 1) i) (hc1 : cx (i + 1) = lt i :: cx i) (hnot : ∀ q, i ≤ q → q < n → D q ≤ D i → lt i ∉ cx q) (hinj : ∀ k, OP9 g lt i k → k ≠ lt i) (hy : ∀ t, S t → ty (t (lt i))) (hw : ∀ w ∈ b :: ws, 0 ≤ w ∧ w < K) (hop : ∀ k, OP9 g lt (i + 1) k → 0 ≤ k ∧ k < K) (ha : ∀ t, S' t → S t ∧ t r = arw (t (lt i)) (t b)) (hb : ∀ t, S t → ∃ t', S' t' ∧ ∀ k, 0 ≤ k → k < K → t' k = t k) : RI9 g cx lt n S' (r :: ws) i := by
  refine ⟨fun t st => ?_, fun τ us h3 h4 h5 h6 => ?_⟩
  · obtain ⟨s1, s2⟩ := ha t st
    obtain ⟨e, f, y1, y2⟩ := h.1 t s1
    rw [List.map_cons]
    refine (HF_lam h0).mpr ⟨_, _, e, f, hy t s1, s2, ?_, y2⟩
    rw [hc1, List.map_cons] at y1
    exact y1
  · cases us with
    | nil => simp at h5
    | cons u us =>
      obtain ⟨a0, b0, e, f, l1, l2, l3, l4⟩ := (HF_lam h0).mp h6
      have hu := h4 u List.mem_cons_self
      rw [l2] at hu
      have hb0 := ty_res l1 hu
      have hlen : us.length = ws.length := by simpa using h5
      obtain ⟨p0, p1, e1, f1, f1', k1', t1, d1, d0, d2, hf2⟩ := hf
      obtain ⟨f9, t9, _⟩ := tm_lam t1 h0
      have he := HT_tm l3 ⟨_, _, t9⟩
      subst he
      have hl := tm_lt t9
      have hq : ∀ q, i ≤ q → q < n → D q ≤ D i → (cx q).map (fun k => if k = lt i then a0 else τ k) = (cx q).map τ := fun q c1 c2 c3 => List.map_congr_left (fun x hx => by
        show (if x = lt i then a0 else τ x) = τ x
        rw [if_neg (fun z => hnot q c1 c2 c3 (by rw [← z]; exact hx))])
      have h00 : (0 : Int) ≠ lt i := hinj 0 (Or.inl rfl)
      obtain ⟨t, s1, s2, s3⟩ := h.2 (fun k => if k = lt i then a0 else τ k) (b0 :: us) (fun k => by
        show ty (if k = lt i then a0 else τ k)
        by_cases c : k = lt i
        · rw [if_pos c]; exact l1
        · rw [if_neg c]; exact h3 k) (fun v hv => by
        rcases List.mem_cons.mp hv with hv | hv
        · rw [hv]; exact hb0
        · exact h4 v (List.mem_cons_of_mem _ hv)) (by simp at h5 ⊢; exact h5) (by
        show HF g cx n _ (if (0 : Int) = lt i then a0 else τ 0) _ _
        rw [if_neg h00]
        refine ⟨e, f, ?_, ?_⟩
        · rw [hc1, List.map_cons, hq i (Int.le_refl _) p1 (Int.le_refl _)]
          show HT g f ((if lt i = lt i then a0 else τ (lt i)) :: _) _ _ _ _
          rw [if_pos rfl]
          exact l3
        · cases us with
          | nil => exact l4
          | cons v vs =>
            refine HF_cg (D := D) (by rw [hlen]; exact hf2) (fun q c1 c2 c3 => hq q (by omega) c2 ?_) l4
            have := d2 (by rw [← hlen]; simp)
            omega)
      rw [List.map_cons] at s3
      obtain ⟨e1, s3⟩ := List.cons.inj s3
      have e2 : t (lt i) = a0 := by
        rw [s2 (lt i) (Or.inr ⟨i, i0, by omega, h0, rfl⟩)]
        exact if_pos rfl
      obtain ⟨t', y1, y2⟩ := hb t s1
      have hli := hop (lt i) (Or.inr ⟨i, i0, by omega, h0, rfl⟩)
      have hbi := hw b List.mem_cons_self
      refine ⟨t', y1, fun k hk => ?_, ?_⟩
      · have := hop k (OP9_up hk)
        rw [y2 k this.1 this.2, s2 k (OP9_up hk)]
        exact if_neg (hinj k hk)
      · rw [List.map_cons, (ha t' y1).2, y2 _ hli.1 hli.2, y2 _ hbi.1 hbi.2, e1, e2, ← l2, ← s3]
        exact congrArg (List.cons u) (List.map_congr_left (fun x hx => y2 x (hw x (List.mem_cons_of_mem _ hx)).1 (hw x (List.mem_cons_of_mem _ hx)).2))
end
def CI9 (g : Int → Int) (cx : Int → List Int) (n : Int) (TY : List Int → List Int → Prop) (S : (Int → List Int) → Prop) (ws : List Int) (p : Int) : Prop := (∀ t, S t → HF g cx n t (t 1) (ws.map t) p → TY (t 0) (t 1)) ∧ (∀ u sh, ty u → ty sh → TY u sh → ∃ t, S t ∧ t 0 = u ∧ t 1 = sh ∧ HF g cx n t (t 1) (ws.map t) p)
section
variable {g D : Int → Int} {cx cx' : Int → List Int} {n p K w : Int} {TY : List Int → List Int → Prop} {S S' : (Int → List Int) → Prop} {ws : List Int}
theorem CI_leaf (h : CI9 g cx n TY S (w :: ws) p) (h2 : 2 ≤ g p) (hf : FO9 g D n (ws.length + 1) p) (hK : 2 ≤ K) (hw : ∀ w ∈ ws, 0 ≤ w ∧ w < K) (hcx : ∀ q, p ≤ q → q < n → D q ≤ D p → ∀ x ∈ cx q, 0 ≤ x ∧ x < K) (ha : ∀ t, S' t → S t ∧ lt9 (g p) ((cx p).map t) (t 1) (t w)) (hb : ∀ t, S t → lt9 (g p) ((cx p).map t) (t 1) (t w) → ∃ t', S' t' ∧ ∀ k, 0 ≤ k → k < K → t' k = t k) : CI9 g cx n TY S' ws (p + 1) := by
  refine ⟨fun t st hh => ?_, fun u sh h3 h4 h5 => ?_⟩
  · obtain ⟨s1, s2⟩ := ha t st
    refine h.1 t s1 ?_
    rw [List.map_cons]
    exact (HF_leaf h2).mpr ⟨s2, hh⟩
  · obtain ⟨t, s1, s2, s3, s4⟩ := h.2 u sh h3 h4 h5
    rw [List.map_cons] at s4
    obtain ⟨l1, l2⟩ := (HF_leaf h2).mp s4
    obtain ⟨t', y1, y2⟩ := hb t s1 l1
    obtain ⟨f1, f2⟩ := FO9_leaf hf h2
    refine ⟨t', y1, by rw [y2 0 (by omega) (by omega)]; exact s2, by rw [y2 1 (by omega) (by omega)]; exact s3, ?_⟩
    rw [y2 1 (by omega) (by omega), show ws.map t' = ws.map t from List.map_congr_left (fun x hx => y2 x (hw x hx).1 (hw x hx).2)]
    cases ws with
    | nil => exact l2
    | cons v vs => exact HF_cg (D := D) (by rw [List.length_map]; exact f1) (fun q c1 c2 c3 => List.map_congr_left (fun x hx => by
        have := f2 (by simp)
        have := hcx q (by omega) c2 (by omega) x hx
        exact y2 x this.1 this.2)) l2
theorem CI_app {a f : Int} (h : CI9 g cx n TY S (w :: ws) p) (h0 : g p = 0) (hf : FO9 g D n (ws.length + 1) p) (hK : 2 ≤ K) (hw : ∀ x ∈ w :: ws, 0 ≤ x ∧ x < K) (hcx : ∀ q, p ≤ q → q < n → D q ≤ D p → ∀ x ∈ cx q, 0 ≤ x ∧ x < K) (hc : ∀ q q', D q = D q' → cx q = cx q') (ha : ∀ t, S' t → S t ∧ ty (t a) ∧ t f = arw (t a) (t w)) (hb : ∀ t a0, S t → ty a0 → ∃ t', S' t' ∧ (∀ k, 0 ≤ k → k < K → t' k = t k) ∧ t' a = a0) : CI9 g cx n TY S' (f :: a :: ws) (p + 1) := by
  obtain ⟨f1, f2, f3⟩ := FO9_app hf h0
  have ht : ∃ e, ∃ f k, tm g f k p e := by
    obtain ⟨_, _, e, _, f', k', t, _⟩ := hf
    exact ⟨e, f', k', t⟩
  obtain ⟨e, ht⟩ := ht
  have hc1 : cx (p + 1) = cx p := hc _ _ f2
  have hc2 : ∀ m, (∃ f k, tm g f k (p + 1) m) → cx m = cx p := fun m hm => hc _ _ (f3 m hm)
  refine ⟨fun t st hh => ?_, fun u sh h3 h4 h5 => ?_⟩
  · obtain ⟨s1, s2, s3⟩ := ha t st
    refine h.1 t s1 ?_
    rw [List.map_cons]
    refine (HF_app ht h0 hc1 hc2).mpr ⟨t a, s2, ?_⟩
    rw [List.map_cons, List.map_cons, s3] at hh
    exact hh
  · obtain ⟨t, s1, s2, s3, s4⟩ := h.2 u sh h3 h4 h5
    rw [List.map_cons] at s4
    obtain ⟨a0, l1, l2⟩ := (HF_app ht h0 hc1 hc2).mp s4
    obtain ⟨t', y1, y2, y3⟩ := hb t a0 s1 l1
    have hw0 := hw w List.mem_cons_self
    refine ⟨t', y1, by rw [y2 0 (by omega) (by omega)]; exact s2, by rw [y2 1 (by omega) (by omega)]; exact s3, ?_⟩
    rw [y2 1 (by omega) (by omega), List.map_cons, List.map_cons, (ha t' y1).2.2, y3, y2 w hw0.1 hw0.2, show ws.map t' = ws.map t from List.map_congr_left (fun x hx => y2 x (hw x (List.mem_cons_of_mem _ hx)).1 (hw x (List.mem_cons_of_mem _ hx)).2)]
    exact HF_cg (D := D) (by simpa using f1) (fun q c1 c2 c3 => List.map_congr_left (fun x hx => by
      have := hcx q (by omega) c2 (by omega) x hx
      exact y2 x this.1 this.2)) l2
theorem CI_lam {b r : Int} (h : CI9 g cx n TY S (w :: ws) p) (h0 : g p = 1) (hf : FO9 g D n (ws.length + 1) p) (hK : 2 ≤ K) (hw : ∀ x ∈ w :: ws, 0 ≤ x ∧ x < K) (hcx : ∀ q, p ≤ q → q < n → D q ≤ D p → ∀ x ∈ cx q, 0 ≤ x ∧ x < K) (hc1 : cx' (p + 1) = b :: cx p) (hc2 : ∀ q, p ≤ q → q < n → D q ≤ D p → cx' q = cx q) (ha : ∀ t, S' t → S t ∧ ty (t b) ∧ t w = arw (t b) (t r)) (hb : ∀ t a0 b0, S t → ty a0 → ty b0 → t w = arw a0 b0 → ∃ t', S' t' ∧ (∀ k, 0 ≤ k → k < K → t' k = t k) ∧ t' b = a0 ∧ t' r = b0) (hy : ∀ t, S t → ty (t w)) : CI9 g cx' n TY S' (r :: ws) (p + 1) := by
  obtain ⟨p0, p1, e1, f1, f1', k1', t1, d1, d0, d2, hf2⟩ := hf
  obtain ⟨f9, t9, _⟩ := tm_lam t1 h0
  have hl := tm_lt t9
  refine ⟨fun t st hh => ?_, fun u sh h3 h4 h5 => ?_⟩
  · obtain ⟨s1, s2, s3⟩ := ha t st
    refine h.1 t s1 ?_
    rw [List.map_cons]
    obtain ⟨e, f, y1, y2⟩ := hh
    have he := HT_tm y1 ⟨_, _, t9⟩
    subst he
    rw [hc1, List.map_cons] at y1
    refine (HF_lam h0).mpr ⟨_, _, e, f, s2, s3, y1, ?_⟩
    cases ws with
    | nil => exact y2
    | cons v vs => exact HF_cg (D := D) (by rw [List.length_map]; exact hf2) (fun q c1 c2 c3 => by
        have := d2 (by simp)
        rw [hc2 q (by omega) c2 (by omega)]) y2
  · obtain ⟨t, s1, s2, s3, s4⟩ := h.2 u sh h3 h4 h5
    rw [List.map_cons] at s4
    obtain ⟨a0, b0, e, f, l1, l2, l3, l4⟩ := (HF_lam h0).mp s4
    have hb0 := hy t s1
    rw [l2] at hb0
    have hb0 := ty_res l1 hb0
    obtain ⟨t', y1, y2, y3, y4⟩ := hb t a0 b0 s1 l1 hb0 l2
    have he := HT_tm l3 ⟨_, _, t9⟩
    subst he
    refine ⟨t', y1, by rw [y2 0 (by omega) (by omega)]; exact s2, by rw [y2 1 (by omega) (by omega)]; exact s3, ?_⟩
    rw [y2 1 (by omega) (by omega), List.map_cons, y4, show ws.map t' = ws.map t from List.map_congr_left (fun x hx => y2 x (hw x (List.mem_cons_of_mem _ hx)).1 (hw x (List.mem_cons_of_mem _ hx)).2)]
    have em : ∀ q, p ≤ q → q < n → D q ≤ D p → (cx q).map t' = (cx q).map t := fun q c1 c2 c3 => List.map_congr_left (fun x hx => by
      have := hcx q c1 c2 c3 x hx
      exact y2 x this.1 this.2)
    refine ⟨e, f, ?_, ?_⟩
    · rw [hc1, List.map_cons, y3, em p (Int.le_refl _) p1 (Int.le_refl _)]
      exact l3
    · cases ws with
      | nil => exact l4
      | cons v vs => exact HF_cg (D := D) (by rw [List.length_map]; exact hf2) (fun q c1 c2 c3 => by
          have := d2 (by simp)
          rw [hc2 q (by omega) c2 (by omega)]
          exact em q (by omega) c2 (by omega)) l4
end
