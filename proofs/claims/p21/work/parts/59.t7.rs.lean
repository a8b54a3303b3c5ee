/-! THE REFERENCE's typing from the right, as it lays its kinds: pure -/
theorem lmf_pos {g D : Int → Int} {f : Nat} {n : Int} (hd : dp g D f 0 0 n) : ∀ q : Nat, (q : Int) < n → ∀ d, 0 ≤ d → d < D q → 0 ≤ lmf g D q d := by
  intro q
  induction q with
  | zero => intro h d d0 d1; have := dp_head hd; have e : D ((0 : Nat) : Int) = D 0 := rfl; omega
  | succ q ih =>
    intro h d d0 d1
    have hn := dp_next hd (q : Int) (by omega) (by omega)
    have e : D ((q + 1 : Nat) : Int) = D ((q : Int) + 1) := rfl
    show 0 ≤ (if g q = 1 ∧ D q = d then (q : Int) else lmf g D q d)
    by_cases c : g q = 1 ∧ D q = d
    · rw [if_pos c]; omega
    · rw [if_neg c]
      refine ih (by omega) d d0 ?_
      by_cases c1 : g q = 1
      · have := hn.1 c1
        have : D q ≠ d := fun z => c ⟨c1, z⟩
        omega
      · have := hn.2 c1
        omega
def LT9 (g lt : Int → Int) (n K : Int) : Prop := (∀ q, 0 ≤ q → q < n → g q = 1 → 0 < lt q ∧ lt q < K) ∧ ∀ q q', 0 ≤ q → q < n → g q = 1 → 0 ≤ q' → q' < n → g q' = 1 → lt q = lt q' → q = q'
theorem OP9_in {g lt : Int → Int} {n K i k : Int} (h : LT9 g lt n K) (hi : i ≤ n) (hK : 0 < K) (o : OP9 g lt i k) : 0 ≤ k ∧ k < K := by
  rcases o with o | ⟨q, q0, q1, q2, q3⟩
  · omega
  · have := h.1 q q0 (by omega) q2
    omega
theorem cxL_op {g D lt : Int → Int} {f : Nat} {n p : Int} (hd : dp g D f 0 0 n) (h0 : 0 ≤ p) (h1 : p < n) {x : Int} (hx : x ∈ cxL g D lt p) : ∃ d, 0 ≤ d ∧ d < D p ∧ x = lt (lmf g D p.toNat d) ∧ 0 ≤ lmf g D p.toNat d ∧ lmf g D p.toNat d < p ∧ g (lmf g D p.toNat d) = 1 ∧ D (lmf g D p.toNat d) = d := by
  obtain ⟨d, d0, d1, e⟩ := cxB_mem hx
  have e1 : ((p.toNat : Nat) : Int) = p := by omega
  have l0 := lmf_pos hd p.toNat (by omega) d d0 (by rw [e1]; exact d1)
  obtain ⟨l1, l2, l3⟩ := lmf_is l0
  exact ⟨d, d0, d1, e, l0, by omega, l2, l3⟩
section
variable {g D lt : Int → Int} {fd : Nat} {n i K K0 r : Int} {S S1 S2 S' : (Int → List Int) → Prop} {ws : List Int}
theorem RS_leaf (h : RI9 g (cxL g D lt) lt n S ws (i + 1)) (hd : dp g D fd 0 0 n) (i0 : 0 ≤ i) (i1 : i < n) (h2 : 2 ≤ g i) (hL : LT9 g lt n K0) (hK0 : 0 < K0) (hK : K0 ≤ K) (hw : ∀ w ∈ ws, 0 ≤ w ∧ w < K) (ha : ∀ t, S' t → S t ∧ lt9 (g i) ((cxL g D lt i).map t) (t 0) (t r)) (hb : ∀ t u, S t → ty u → lt9 (g i) ((cxL g D lt i).map t) (t 0) u → ∃ t', S' t' ∧ (∀ k, 0 ≤ k → k < K → t' k = t k) ∧ t' r = u) : RI9 g (cxL g D lt) lt n S' (r :: ws) i :=
  RI_leaf h h2 hw (fun k o => by have := OP9_in hL (by omega) hK0 o; omega) (fun x hx => by
    obtain ⟨d, _, _, e, l0, l1, l2, _⟩ := cxL_op hd i0 i1 hx
    exact Or.inr ⟨_, l0, l1, l2, e⟩) ha hb
theorem RS_let (h : RI9 g (cxL g D lt) lt n S ws (i + 1)) (hd : dp g D fd 0 0 n) (i0 : 0 ≤ i) (i1 : i < n) (h2 : 2 ≤ g i) (h3 : g i ≤ 6) (hL : LT9 g lt n K0) (hK0 : 0 < K0) (hK : K0 ≤ K) (hw : ∀ w ∈ ws, 0 ≤ w ∧ w < K) (o : opL S S' K (g i) 0 r) : RI9 g (cxL g D lt) lt n S' (r :: ws) i :=
  RS_leaf h hd i0 i1 h2 hL hK0 hK hw (fun t z => o.1 t _ z) (fun t u z _ y => o.2 t u z (lt9_G (by omega) y))
theorem RS_var (h : RI9 g (cxL g D lt) lt n S ws (i + 1)) (hd : dp g D fd 0 0 n) (i0 : 0 ≤ i) (i1 : i < n) (h2 : 10 ≤ g i) (h3 : g i - 10 < D i) (hL : LT9 g lt n K0) (hK0 : 0 < K0) (hK : K0 ≤ K) (hw : ∀ w ∈ ws, 0 ≤ w ∧ w < K) (hr : r = lt (lmf g D i.toNat (D i - 1 - (g i - 10)))) : RI9 g (cxL g D lt) lt n S (r :: ws) i := by
  have e : ∀ t : Int → List Int, ((cxL g D lt i).map t)[(g i - 10).toNat]? = some (t r) := fun t => by
    rw [List.getElem?_map]
    unfold cxL
    rw [cxB_get (by omega) h3, hr]
    rfl
  refine RS_leaf h hd i0 i1 (by omega) hL hK0 hK hw (fun t z => ⟨z, (lt9_v h2).mpr (e t)⟩) (fun t u z _ y => ⟨t, z, fun _ _ _ => rfl, ?_⟩)
  have := (lt9_v h2).mp y
  rw [e t] at this
  exact Option.some.inj this
theorem RS_app {f a : Int} (h : RI9 g (cxL g D lt) lt n S (f :: a :: ws) (i + 1)) (hf : FO9 g D n (ws.length + 1) i) (h0 : g i = 0) (i0 : 0 ≤ i) (i1 : i < n) (hL : LT9 g lt n K0) (hK0 : 0 < K0) (hK : K0 ≤ K) (hw : ∀ w ∈ f :: a :: ws, 0 ≤ w ∧ w < K) (hy : ∀ t, S t → ∀ k, 0 ≤ k → k < K → ty (t k)) (o1 : opA S S1 K) (o2 : opR S1 S2 (K + 1) a K) (o3 : ∀ t, S' t ↔ (S2 t ∧ t f = t (K + 1))) : RI9 g (cxL g D lt) lt n S' (K :: ws) i := by
  obtain ⟨f1, f2, f3⟩ := FO9_app hf h0
  obtain ⟨_, _, e, _, f', k', t, _⟩ := hf
  obtain ⟨_, _, m, fm, fm', km, tm1, dm, _⟩ := f1
  have hc1 : cxL g D lt (i + 1) = cxL g D lt i := cxL_app i0 (by omega) f2
  have hwf := hw f List.mem_cons_self
  have hwa := hw a (List.mem_cons_of_mem _ List.mem_cons_self)
  refine RI_app h ⟨f', k', t⟩ h0 hc1 (fun m2 ⟨f5, k5, t5⟩ => ?_) (fun t z => hy t z a hwa.1 hwa.2) (fun w hw2 => hw w (List.mem_cons_of_mem _ (List.mem_cons_of_mem _ hw2))) (fun k o => by have := OP9_in hL (by omega) hK0 o; omega) (fun t z => ?_) (fun t u z tu e => ?_)
  · rw [← tm_one tm1 t5, cxL_end dm (by omega) (by rw [f3 m ⟨_, _, tm1⟩]; exact f2.symm)]
    exact hc1
  · obtain ⟨z2, y3⟩ := (o3 t).mp z
    obtain ⟨z1, y2⟩ := (o2.1 t).mp z2
    obtain ⟨z0, y1⟩ := (o1.1 t).mp z1
    exact ⟨z0, by rw [y3, y2]⟩
  · obtain ⟨t1, z1, w1, v1⟩ := o1.2 t u z tu
    obtain ⟨t2, z2, w2⟩ := o2.2 t1 z1
    obtain ⟨_, y2⟩ := (o2.1 t2).mp z2
    have eu : t2 K = u := by rw [w2 K (by omega) (by omega), v1]
    have ek : ∀ k, 0 ≤ k → k < K → t2 k = t k := fun k c1 c2 => by rw [w2 k c1 (by omega), w1 k c1 c2]
    refine ⟨t2, (o3 t2).mpr ⟨z2, ?_⟩, ek, eu⟩
    rw [y2, eu, ek f hwf.1 hwf.2, ek a hwa.1 hwa.2, e]
theorem RS_lam {b : Int} (h : RI9 g (cxL g D lt) lt n S (b :: ws) (i + 1)) (hd : dp g D fd 0 0 n) (hf : FO9 g D n (ws.length + 1) i) (h0 : g i = 1) (i0 : 0 ≤ i) (i1 : i < n) (hL : LT9 g lt n K0) (hK0 : 0 < K0) (hK : K0 ≤ K) (hw : ∀ w ∈ b :: ws, 0 ≤ w ∧ w < K) (hy : ∀ t, S t → ∀ k, 0 ≤ k → k < K → ty (t k)) (o1 : opR S S' K (lt i) b) : RI9 g (cxL g D lt) lt n S' (K :: ws) i := by
  obtain ⟨f1, f2⟩ := FO9_lam hf h0
  have hdi := hf.2.2
  obtain ⟨_, _, _, _, _, _, d0, _⟩ := hdi
  have hli := hL.1 i i0 i1 h0
  refine RI_lam h h0 i0 hf (cxL_lam i0 h0 d0 f2) (fun q c1 c2 c3 hx => ?_) (fun k o => ?_) (fun t z => hy t z _ (by omega) (by omega)) hw (fun k o => by have := OP9_in hL (by omega) hK0 o; omega) (fun t z => (o1.1 t).mp z) (fun t z => o1.2 t z)
  · obtain ⟨d, d1, d2, e, l0, l1, l2, l3⟩ := cxL_op hd (by omega) c2 hx
    have := hL.2 i _ i0 i1 h0 l0 (by omega) l2 e
    rw [← this] at l3
    omega
  · rcases o with o | ⟨q, q0, q1, q2, q3⟩
    · omega
    · intro z
      have := hL.2 q i q0 (by omega) q2 i0 i1 h0 (by rw [← q3]; exact z)
      omega
theorem RS_beg (hS : ∀ t, S t ↔ ∀ k, 0 ≤ k → k < K → ty (t k)) : RI9 g (cxL g D lt) lt n S [] n := by
  refine ⟨fun t _ => rfl, fun τ us h1 h2 h3 _ => ⟨τ, (hS τ).mpr (fun k _ _ => h1 k), fun _ _ => rfl, ?_⟩⟩
  cases us with
  | nil => rfl
  | cons u us => simp at h3
theorem RS_end {w : Int} (h : RI9 g (cxL g D lt) lt n S [w] 0) (hd : D 0 = 0) (hy : ∀ t, S t → ty (t w) ∧ ty (t 0)) : (∀ t, S t → TYP g n (t w)) ∧ ∀ a, TYP g n a → ∃ t, S t ∧ t w = a := by
  have hc : cxL g D lt 0 = [] := by unfold cxL; rw [hd]; rfl
  refine ⟨fun t z => ?_, fun a ha => ?_⟩
  · obtain ⟨e, f, y1, y2⟩ := h.1 t z
    rw [hc] at y1
    have e1 : e = n := y2
    rw [e1] at y1
    exact ⟨(hy t z).1, t 0, f, (hy t z).2, y1⟩
  · obtain ⟨ta, sh, f, ts, y1⟩ := ha
    obtain ⟨t, s1, _, s3⟩ := h.2 (fun k => if k = 0 then sh else [1]) [a] (fun k => by
      show ty (if k = 0 then sh else [1])
      by_cases c : k = 0
      · rw [if_pos c]; exact ts
      · rw [if_neg c]; exact ty_v (by omega)) (fun u hu => by rw [List.mem_singleton.mp hu]; exact ta) rfl (by
      refine ⟨n, f, ?_, rfl⟩
      rw [hc]
      exact y1)
    exact ⟨t, s1, (List.cons.inj s3).1⟩
end
/-- a pile: its top first -/
def pl (g : Int → Int) : Nat → List Int
  | 0 => []
  | n + 1 => g n :: pl g n
theorem pl_len {g : Int → Int} : ∀ {n : Nat}, (pl g n).length = n := by
  intro n
  induction n with
  | zero => rfl
  | succ n ih => show (pl g n).length + 1 = n + 1; rw [ih]
theorem pl_eq {g g' : Int → Int} : ∀ {n : Nat}, (∀ j, 0 ≤ j → j < (n : Int) → g' j = g j) → pl g' n = pl g n := by
  intro n
  induction n with
  | zero => intro _; rfl
  | succ n ih =>
    intro h
    show g' n :: pl g' n = g n :: pl g n
    rw [h n (by omega) (by omega), ih (fun j a b => h j a (by omega))]
theorem pl_put {g : Int → Int} {n : Nat} {v : Int} : pl (updI g n v) (n + 1) = v :: pl g n := by
  show updI g n v n :: pl (updI g n v) n = v :: pl g n
  rw [updI_s, pl_eq (g := g) (fun j a b => updI_n _ _ (by omega))]
theorem pl_mem {g : Int → Int} : ∀ {n : Nat} {x : Int}, x ∈ pl g n → ∃ j, 0 ≤ j ∧ j < (n : Int) ∧ x = g j := by
  intro n
  induction n with
  | zero => intro x h; exact absurd h List.not_mem_nil
  | succ n ih =>
    intro x h
    rcases List.mem_cons.mp h with h | h
    · exact ⟨n, by omega, by omega, h⟩
    · obtain ⟨j, a, b, c⟩ := ih h
      exact ⟨j, a, by omega, c⟩
theorem SOL_ty {K no : Int} {L R rt : Int → Int} {t : Int → List Int} (s : SOL K no L R rt t) : ∀ k, 0 ≤ k → k < K → ty (t k) := fun k a b => (s k a b).1
