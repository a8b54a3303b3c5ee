/-! TYPES: their codes, what is put for their names, their names by first place: pure -/
def tyL : Nat → List Int → Prop
  | 0, _ => False
  | f + 1, l => (∃ l1 l2, l = 0 :: (l1 ++ l2) ∧ tyL f l1 ∧ tyL f l2) ∨ (∃ v : Int, 1 ≤ v ∧ l = [v])
def ty (l : List Int) : Prop := ∃ f, tyL f l
theorem tyL_up : ∀ {f : Nat} {l : List Int}, tyL f l → tyL (f + 1) l := by
  intro f
  induction f with
  | zero => intro l h; exact h.elim
  | succ f ih =>
    intro l h
    rcases h with ⟨l1, l2, h0, h1, h2⟩ | h
    · exact Or.inl ⟨l1, l2, h0, ih h1, ih h2⟩
    · exact Or.inr h
theorem tyL_le {f f' : Nat} {l : List Int} (h : f ≤ f') (t : tyL f l) : tyL f' l := by
  induction h with
  | refl => exact t
  | step _ ih => exact tyL_up ih
theorem ty_v {v : Int} (h : 1 ≤ v) : ty [v] := ⟨1, Or.inr ⟨v, h, rfl⟩⟩
theorem ty_a {a b : List Int} (h1 : ty a) (h2 : ty b) : ty (0 :: (a ++ b)) := by
  obtain ⟨f, h1⟩ := h1
  obtain ⟨f', h2⟩ := h2
  exact ⟨f + f' + 1, Or.inl ⟨a, b, rfl, tyL_le (by omega) h1, tyL_le (by omega) h2⟩⟩
theorem tyL_pos {f : Nat} {l : List Int} (h : tyL f l) : 1 ≤ l.length := by
  cases f with
  | zero => exact h.elim
  | succ f =>
    rcases h with ⟨l1, l2, h0, _⟩ | ⟨v, _, h0⟩ <;> subst h0 <;> simp
theorem ty_pos {l : List Int} (h : ty l) : 1 ≤ l.length := by
  obtain ⟨f, h⟩ := h
  exact tyL_pos h
/-- no type's code begins another's -/
theorem tyL_pre : ∀ {f f' : Nat} {a b x y : List Int}, tyL f a → tyL f' b → a ++ x = b ++ y → a = b ∧ x = y := by
  intro f
  induction f with
  | zero => intro f' a b x y h; exact h.elim
  | succ f ih =>
    intro f' a b x y h h' e
    cases f' with
    | zero => exact h'.elim
    | succ f' =>
      rcases h with ⟨a1, a2, h0, h1, h2⟩ | ⟨v, hv, h0⟩
      · rcases h' with ⟨b1, b2, g0, g1, g2⟩ | ⟨w, hw, g0⟩
        · rw [h0, g0] at e
          have e1 : a1 ++ a2 ++ x = b1 ++ b2 ++ y := (List.cons.inj e).2
          rw [List.append_assoc, List.append_assoc] at e1
          obtain ⟨e2, e3⟩ := ih h1 g1 e1
          obtain ⟨e4, e5⟩ := ih h2 g2 e3
          exact ⟨by rw [h0, g0, e2, e4], e5⟩
        · rw [h0, g0] at e
          have e1 := (List.cons.inj e).1
          omega
      · rcases h' with ⟨b1, b2, g0, g1, g2⟩ | ⟨w, hw, g0⟩
        · rw [h0, g0] at e
          have e1 := (List.cons.inj e).1
          omega
        · rw [h0, g0] at e
          have e1 := (List.cons.inj e).1
          have e2 : x = y := (List.cons.inj e).2
          exact ⟨by rw [h0, g0, e1], e2⟩
theorem ty_inj {a b x y : List Int} (h : ty a) (h' : ty b) (e : (0 : Int) :: (a ++ x) = 0 :: (b ++ y)) : a = b ∧ x = y := by
  obtain ⟨f, h⟩ := h
  obtain ⟨f', h'⟩ := h'
  exact tyL_pre h h' (List.cons.inj e).2
theorem tyL_ge {f : Nat} : ∀ {l : List Int}, tyL f l → ∀ c ∈ l, 0 ≤ c := by
  induction f with
  | zero => intro l h; exact h.elim
  | succ f ih =>
    intro l h c hc
    rcases h with ⟨l1, l2, h0, h1, h2⟩ | ⟨v, hv, h0⟩
    · rw [h0] at hc
      rcases List.mem_cons.mp hc with hc | hc
      · omega
      · rcases List.mem_append.mp hc with hc | hc
        · exact ih h1 c hc
        · exact ih h2 c hc
    · rw [h0] at hc
      have := List.mem_singleton.mp hc
      omega
/-- what is put for the names -/
def sub (t : Int → List Int) (l : List Int) : List Int := l.flatMap (fun c => if c = 0 then [0] else t c)
theorem sub_nil {t : Int → List Int} : sub t [] = [] := rfl
theorem sub_c {t : Int → List Int} {c : Int} {l : List Int} : sub t (c :: l) = (if c = 0 then [0] else t c) ++ sub t l := by
  unfold sub
  rw [List.flatMap_cons]
theorem sub_app {t : Int → List Int} {l u : List Int} : sub t (l ++ u) = sub t l ++ sub t u := List.flatMap_append
theorem sub_0 {t : Int → List Int} {l : List Int} : sub t (0 :: l) = 0 :: sub t l := by
  rw [sub_c, if_pos rfl]
  rfl
theorem sub_v {t : Int → List Int} {v : Int} (h : 1 ≤ v) : sub t [v] = t v := by
  rw [sub_c, if_neg (by omega), sub_nil, List.append_nil]
theorem tyL_sub {t : Int → List Int} (ht : ∀ v, 1 ≤ v → ty (t v)) : ∀ {f : Nat} {l : List Int}, tyL f l → ty (sub t l) := by
  intro f
  induction f with
  | zero => intro l h; exact h.elim
  | succ f ih =>
    intro l h
    rcases h with ⟨l1, l2, h0, h1, h2⟩ | ⟨v, hv, h0⟩
    · rw [h0, sub_0, sub_app]
      exact ty_a (ih h1) (ih h2)
    · rw [h0, sub_v hv]
      exact ht v hv
theorem sub_len {t : Int → List Int} (ht : ∀ v, 1 ≤ v → 1 ≤ (t v).length) : ∀ {l : List Int}, (∀ c ∈ l, 0 ≤ c) → l.length ≤ (sub t l).length ∧ ((sub t l).length ≤ l.length → ∀ c ∈ l, c ≠ 0 → (t c).length = 1) := by
  intro l
  induction l with
  | nil => intro _; exact ⟨Nat.le_refl 0, fun _ c hc => absurd hc List.not_mem_nil⟩
  | cons x r ih =>
    intro hp
    obtain ⟨i1, i2⟩ := ih (fun c hc => hp c (List.mem_cons_of_mem _ hc))
    have hx := hp x List.mem_cons_self
    rw [sub_c, List.length_append, List.length_cons]
    by_cases c0 : x = 0
    · rw [if_pos c0]
      refine ⟨by simp only [List.length_cons, List.length_nil]; omega, fun h c hc h0 => ?_⟩
      simp only [List.length_cons, List.length_nil] at h
      rcases List.mem_cons.mp hc with hc | hc
      · exact absurd (hc.trans c0) h0
      · exact i2 (by omega) c hc h0
    · rw [if_neg c0]
      have h1 := ht x (by omega)
      refine ⟨by omega, fun h c hc h0 => ?_⟩
      rcases List.mem_cons.mp hc with hc | hc
      · rw [hc]; omega
      · exact i2 (by omega) c hc h0
/-- a row whose every name is put one name for -/
theorem sub_map {t : Int → List Int} : ∀ {l : List Int}, (∀ c ∈ l, c ≠ 0 → (t c).length = 1) → sub t l = l.map (fun c => if c = 0 then 0 else (t c).headD 0) := by
  intro l
  induction l with
  | nil => intro _; rfl
  | cons x r ih =>
    intro h
    rw [sub_c, List.map_cons, ih (fun c hc => h c (List.mem_cons_of_mem _ hc))]
    by_cases c0 : x = 0
    · rw [if_pos c0, if_pos c0]; rfl
    · rw [if_neg c0, if_neg c0]
      have h1 := h x List.mem_cons_self c0
      cases hx : t x with
      | nil => rw [hx] at h1; simp at h1
      | cons y z =>
        rw [hx] at h1
        have hz : z = [] := by
          cases z with
          | nil => rfl
          | cons _ _ => simp at h1
        rw [hz]
        rfl
/-- where a name stands first -/
def ixo (v : Int) : List Int → Int → Int
  | [], _ => -1
  | x :: r, k => if x = v then k else ixo v r (k + 1)
/-- the names told by the order in which they come -/
def cnf : List Int → List Int → List Int
  | _, [] => []
  | S, c :: r => if c = 0 then 0 :: cnf S r else if ixo c S 0 = -1 then ((S.length : Int) + 1) :: cnf (S ++ [c]) r else (ixo c S 0 + 1) :: cnf S r
theorem ixo_map {p : Int → Int} {v : Int} : ∀ {S : List Int} {k : Int}, (∀ c ∈ S, p c = p v → c = v) → ixo (p v) (S.map p) k = ixo v S k := by
  intro S
  induction S with
  | nil => intro k _; rfl
  | cons x r ih =>
    intro k h
    show (if p x = p v then k else ixo (p v) (r.map p) (k + 1)) = (if x = v then k else ixo v r (k + 1))
    by_cases c : x = v
    · rw [if_pos (by rw [c]), if_pos c]
    · rw [if_neg (fun z => c (h x List.mem_cons_self z)), if_neg c]
      exact ih (fun c hc => h c (List.mem_cons_of_mem _ hc))
theorem cnf_map {p : Int → Int} : ∀ {l S : List Int}, (∀ c ∈ l, (p c = 0 ↔ c = 0)) → (∀ c ∈ l, ∀ d, (d ∈ l ∨ d ∈ S) → p d = p c → d = c) → cnf (S.map p) (l.map p) = cnf S l := by
  intro l
  induction l with
  | nil => intro S _ _; rfl
  | cons x r ih =>
    intro S h0 h1
    have hx := h0 x List.mem_cons_self
    have r0 : ∀ c ∈ r, (p c = 0 ↔ c = 0) := fun c hc => h0 c (List.mem_cons_of_mem _ hc)
    show (if p x = 0 then 0 :: cnf (S.map p) (r.map p) else if ixo (p x) (S.map p) 0 = -1 then (((S.map p).length : Int) + 1) :: cnf (S.map p ++ [p x]) (r.map p) else (ixo (p x) (S.map p) 0 + 1) :: cnf (S.map p) (r.map p)) = (if x = 0 then 0 :: cnf S r else if ixo x S 0 = -1 then ((S.length : Int) + 1) :: cnf (S ++ [x]) r else (ixo x S 0 + 1) :: cnf S r)
    have e1 := ixo_map (p := p) (v := x) (S := S) (k := 0) (fun c hc z => h1 x List.mem_cons_self c (Or.inr hc) z)
    have i1 := ih (S := S) r0 (fun c hc d hd z => h1 c (List.mem_cons_of_mem _ hc) d (hd.elim (fun q => Or.inl (List.mem_cons_of_mem _ q)) Or.inr) z)
    have i2 := ih (S := S ++ [x]) r0 (fun c hc d hd z => h1 c (List.mem_cons_of_mem _ hc) d (hd.elim (fun q => Or.inl (List.mem_cons_of_mem _ q)) (fun q => (List.mem_append.mp q).elim Or.inr (fun q => Or.inl (by rw [List.mem_singleton.mp q]; exact List.mem_cons_self)))) z)
    rw [List.map_append, List.map_cons, List.map_nil] at i2
    rw [e1, i1, i2, List.length_map]
    by_cases c : x = 0
    · rw [if_pos c, if_pos (hx.mpr c)]
    · rw [if_neg c, if_neg (fun z => c (hx.mp z))]
theorem map_self {p : Int → Int} : ∀ {l : List Int}, l.map p = l → ∀ c ∈ l, p c = c := by
  intro l
  induction l with
  | nil => intro _ c hc; exact absurd hc List.not_mem_nil
  | cons x r ih =>
    intro h c hc
    rw [List.map_cons] at h
    obtain ⟨h1, h2⟩ := List.cons.inj h
    rcases List.mem_cons.mp hc with hc | hc
    · rw [hc]; exact h1
    · exact ih h2 c hc
/-- two types, each made of the other: the same but for the names -/
theorem cnf_two {t u : Int → List Int} {a b : List Int} (ha : ty a) (hb : ty b) (ht : ∀ v, 1 ≤ v → ty (t v)) (hu : ∀ v, 1 ≤ v → ty (u v)) (h1 : b = sub t a) (h2 : a = sub u b) : cnf [] a = cnf [] b := by
  obtain ⟨fa, ta⟩ := ha
  obtain ⟨fb, tb⟩ := hb
  have pa := tyL_ge ta
  have pb := tyL_ge tb
  obtain ⟨l1, m1⟩ := sub_len (t := t) (fun v hv => ty_pos (ht v hv)) pa
  obtain ⟨l2, m2⟩ := sub_len (t := u) (fun v hv => ty_pos (hu v hv)) pb
  rw [← h1] at l1 m1
  rw [← h2] at l2 m2
  have n1 := m1 l2
  have n2 := m2 l1
  have e1 := sub_map n1
  have e2 := sub_map n2
  rw [← h1] at e1
  rw [← h2] at e2
  have e3 : a.map ((fun c => if c = 0 then 0 else (u c).headD 0) ∘ (fun c => if c = 0 then 0 else (t c).headD 0)) = a := by
    rw [← List.map_map, ← e1]
    exact e2.symm
  have e4 := map_self e3
  have hz : ∀ c ∈ a, ((fun c => if c = 0 then 0 else (t c).headD 0) c = 0 ↔ c = 0) := by
    intro c hc
    constructor
    · intro z
      have z1 := e4 c hc
      have z2 : (if (if c = 0 then 0 else (t c).headD 0) = 0 then 0 else (u (if c = 0 then 0 else (t c).headD 0)).headD 0) = c := z1
      have z3 : (if c = 0 then 0 else (t c).headD 0) = 0 := z
      rw [z3, if_pos rfl] at z2
      exact z2.symm
    · intro z
      show (if c = 0 then 0 else (t c).headD 0) = 0
      rw [if_pos z]
  have e5 := cnf_map (p := fun c => if c = 0 then 0 else (t c).headD 0) (l := a) (S := []) hz (fun c hc d hd z => by
    have hd : d ∈ a := hd.elim id (fun q => absurd q List.not_mem_nil)
    have z1 := e4 c hc
    have z2 := e4 d hd
    exact z2.symm.trans ((congrArg (fun c => if c = 0 then 0 else (u c).headD 0) z).trans z1))
  rw [← e1] at e5
  exact e5.symm
