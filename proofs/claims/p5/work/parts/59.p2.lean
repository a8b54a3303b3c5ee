/-! THE REFERENCE: part, lay, level by the reader's state -/
def lvR (a : Nat → Int → Int) : List Lev → Prop
  | [] => True
  | x :: r => a 7 (r.length : Int) = ((flat r).length : Int) ∧ (a 8 (r.length : Int) = if x.2.1 = 0 then 0 else 1) ∧ a 9 (r.length : Int) = x.1 ∧ 0 ≤ x.2.1 ∧ lvR a r
def nmR (nm : Nat → Int64) : List Int → Prop
  | [] => True
  | v :: r => nm r.length = lI v ∧ nmR nm r
def wfL : List Lev → Prop
  | [] => False
  | x :: r => (x.1 = -1 ∧ r = []) ∨ (0 ≤ x.1 ∧ wfL r)
def sK : List Lev → Int
  | [] => 0
  | x :: r => (if 0 < x.1 then x.1 else 0) + sK r
theorem wfL_len : ∀ {L : List Lev}, wfL L → (1 ≤ L.length) ∧ (L.length : Int) ≤ 1 + nP L + sK L ∧ 0 ≤ nP L ∧ 0 ≤ sK L
  | [], h => h.elim
  | x :: r, h => by
    show 1 ≤ r.length + 1 ∧ ((r.length + 1 : Nat) : Int) ≤ 1 + ((if x.1 = 0 then 1 else 0) + nP r) + ((if 0 < x.1 then x.1 else 0) + sK r) ∧ 0 ≤ (if x.1 = 0 then 1 else 0) + nP r ∧ 0 ≤ (if 0 < x.1 then x.1 else 0) + sK r
    rcases h with ⟨h1, h2⟩ | ⟨h1, h2⟩
    · subst h2
      rw [if_neg (by omega), if_neg (by omega)]
      exact ⟨Nat.le_refl 1, Int.le_refl 1, Int.le_refl 0, Int.le_refl 0⟩
    · have ih := wfL_len h2
      by_cases h0 : x.1 = 0
      · rw [if_pos h0, if_neg (by omega)]; omega
      · rw [if_neg h0, if_pos (by omega)]; omega
theorem lvR_eq {a a' : Nat → Int → Int} : ∀ {L : List Lev}, (∀ j, 0 ≤ j → j < (L.length : Int) → a' 7 j = a 7 j ∧ a' 8 j = a 8 j ∧ a' 9 j = a 9 j) → lvR a L → lvR a' L
  | [], _, _ => trivial
  | x :: r, h, ⟨h1, h2, h3, h4, h5⟩ => by
    have h0 := h r.length (by omega) (by rw [List.length_cons]; omega)
    exact ⟨by rw [h0.1]; exact h1, by rw [h0.2.1]; exact h2, by rw [h0.2.2]; exact h3, h4, lvR_eq (fun j z y => h j z (by rw [List.length_cons]; omega)) h5⟩
/-- the row holds l -/
def RW (l : List Int) (s : Nat → Int) (a : Nat → Int → Int) : Prop := s 6 = l.length ∧ rg (a 4) l.length 0 = l ∧ ∀ j, in32 (a 4 j)
def RL (S : PS) (s : Nat → Int) (a : Nat → Int → Int) (nm : Nat → Int64) : Prop := s 18 = S.1.length ∧ lvR a S.1 ∧ s 20 = S.2.1.length ∧ nmR nm S.2.1 ∧ s 21 = S.2.1.length + nP S.1 ∧ s 21 ≤ 40 ∧ wfL S.1 ∧ sK S.1 + S.2.2.2 = S.2.1.length ∧ 0 ≤ S.2.2.2 ∧ ∀ v ∈ S.2.1, 0 ≤ v ∧ v ≤ 282429536481
theorem RL_len {S : PS} {s : Nat → Int} {a : Nat → Int → Int} {nm : Nat → Int64} (h : RL S s a nm) : 1 ≤ s 18 ∧ s 18 ≤ 41 ∧ 0 ≤ s 20 ∧ s 20 ≤ 40 ∧ 0 ≤ s 21 := by
  obtain ⟨h1, h2, h3, h4, h5, h6, h7, h8, h9, _⟩ := h
  have := wfL_len h7
  omega
theorem RL_fr {S : PS} {s s' : Nat → Int} {a a' : Nat → Int → Int} {nm : Nat → Int64} (h : RL S s a nm) (h1 : s' 18 = s 18) (h2 : s' 20 = s 20) (h3 : s' 21 = s 21) (h7 : a' 7 = a 7) (h8 : a' 8 = a 8) (h9 : a' 9 = a 9) : RL S s' a' nm := by
  obtain ⟨g1, g2, g3, g4, g5, g6, g⟩ := h
  exact ⟨by omega, lvR_eq (fun j _ _ => by rw [h7, h8, h9]; exact ⟨rfl, rfl, rfl⟩) g2, by omega, g4, by omega, by omega, g⟩
theorem flat_add {L : List Lev} {i : Int} (h : L ≠ []) : flat (pAdd L i) = flat L ++ ex1 i := by
  cases L with
  | nil => exact absurd rfl h
  | cons x r =>
    show flat r ++ (List.replicate (x.2.1 - 1).toNat 0 ++ exs (x.2.2 ++ [i])) = flat r ++ (List.replicate (x.2.1 - 1).toNat 0 ++ exs x.2.2) ++ ex1 i
    rw [exs_app, exs_one]
    simp only [List.append_assoc]
theorem flat_part0 {x : Lev} {r : List Lev} (h : x.2.1 = 0) : flat (pPart (x :: r)) = flat (x :: r) := by
  show flat r ++ (List.replicate (x.2.1 + 1 - 1).toNat 0 ++ exs x.2.2) = flat r ++ (List.replicate (x.2.1 - 1).toNat 0 ++ exs x.2.2)
  rw [h]; rfl
theorem flat_part1 {x : Lev} {r : List Lev} (h : 1 ≤ x.2.1) : flat (pPart (x :: r)) = flat r ++ (0 :: (List.replicate (x.2.1 - 1).toNat 0 ++ exs x.2.2)) := by
  show flat r ++ (List.replicate (x.2.1 + 1 - 1).toNat 0 ++ exs x.2.2) = _
  rw [show (x.2.1 + 1 - 1).toNat = (x.2.1 - 1).toNat + 1 by omega, List.replicate_succ]
  rfl
theorem RL_add {S : PS} {i h : Int} {s : Nat → Int} {a : Nat → Int → Int} {nm : Nat → Int64} (hR : RL S s a nm) : RL (pAdd S.1 i, S.2.1, h, S.2.2.2) s a nm := by
  obtain ⟨g1, g2, g3, g4, g5, g6, g7, g8⟩ := hR
  obtain ⟨L, ns, h0, m⟩ := S
  cases L with
  | nil => exact absurd g7 (fun z => z)
  | cons x r => exact ⟨g1, g2, g3, g4, g5, g6, g7, g8⟩
theorem RL_hm {S : PS} {h : Int} {s : Nat → Int} {a : Nat → Int → Int} {nm : Nat → Int64} (hR : RL S s a nm) : RL (S.1, S.2.1, h, S.2.2.2) s a nm := hR
theorem ins_rg {g : Int → Int} {l1 l2 : List Int} {v : Int} (h : rg g (l1 ++ l2).length 0 = l1 ++ l2) : rg (updI (mvI g l1.length (l1 ++ l2).length) l1.length v) (l1 ++ v :: l2).length 0 = l1 ++ v :: l2 := by
  rw [List.length_append] at h
  rw [rg_app] at h
  obtain ⟨h1, h2⟩ := List.append_inj h rg_len
  have e9 : (l1 ++ v :: l2).length = l1.length + (l2.length + 1) := by rw [List.length_append, List.length_cons]
  rw [e9, rg_app]
  congr 1
  · rw [rg_eq (g := g) (fun j z y => by rw [updI_n _ _ (by omega)]; unfold mvI; rw [if_neg (by omega)])]
    exact h1
  · show updI _ _ v (0 + (l1.length : Int)) :: rg _ l2.length (0 + (l1.length : Int) + 1) = v :: l2
    rw [show (0 : Int) + (l1.length : Int) = l1.length by omega, updI_s]
    congr 1
    have := rg_congr (g := g) (g' := updI (mvI g l1.length (l1 ++ l2).length) l1.length v) (n := l2.length) (p := 0 + (l1.length : Int)) (o := 1) (fun j z y => by rw [updI_n _ _ (by omega)]; unfold mvI; rw [if_pos ⟨by omega, by rw [List.length_append]; omega⟩, show j + 1 - 1 = j by omega])
    rw [show (0 : Int) + (l1.length : Int) + 1 = l1.length + 1 by omega] at this
    rw [this]; exact h2
theorem mvI_in {g : Int → Int} {b i : Int} (h : ∀ j, in32 (g j)) : ∀ j, in32 (mvI g b i j) := by
  intro j
  unfold mvI
  split
  · exact h _
  · exact h j
theorem M_partT {d : Nat} {A B : List va_E} {s : Nat → Int} {vl : Int64} {a : Nat → Int → Int} {nm : Nat → Int64} {Q : Option Value → List va_E → Nat → Nat → Prop} {S : PS} (hA : A.length = 18) (hR : RL S s a nm) (hw : RW (flat S.1) s a) (h6 : s 6 < 12000) (k : ∀ s' a', (∀ j, j ≠ 6 → s' j = s j) → (∀ j, j ≠ 4 → j ≠ 8 → a' j = a j) → RL (pPart S.1, S.2) s' a' nm → RW (flat (pPart S.1)) s' a' → s' 6 ≤ s 6 + 1 → s 6 ≤ s' 6 → Q none (mh A s' vl a' nm B) 0 0) : pm_E none d pm_mm156 0 [(0, .ref 18)] [] (mh A s vl a nm B) 0 0 Q := by
  have hl := RL_len hR
  obtain ⟨g1, g2, g3, g4, g5, g6, g7, g8⟩ := hR
  obtain ⟨w1, w2, w3⟩ := hw
  obtain ⟨L, ns, h0, m⟩ := S
  cases L with
  | nil => exact absurd g7 (fun z => z)
  | cons x r =>
    obtain ⟨q1, q2, q3, q4, q5⟩ := g2
    replace g1 : s 18 = ((r.length + 1 : Nat) : Int) := g1
    have e1 : s 18 - 1 = (r.length : Int) := by omega
    have hfl : ((flat (x :: r)).length : Int) = s 6 := w1.symm
    have hfr : ((flat r).length : Int) ≤ s 6 := by rw [← hfl]; show _ ≤ (((flat r ++ _).length : Nat) : Int); rw [List.length_append]; omega
    have fin : ∀ (s' : Nat → Int) (a' : Nat → Int → Int), (∀ j, j ≠ 6 → s' j = s j) → (∀ j, j ≠ 4 → j ≠ 8 → a' j = a j) → a' 8 = updI (a 8) (s 18 - 1) 1 → RL (pPart (x :: r), ns, h0, m) s' a' nm := by
      intro s' a' fS fA e8
      refine ⟨by rw [fS 18 (by omega)]; exact g1, ⟨by rw [fA 7 (by omega) (by omega)]; exact q1, ?_, by rw [fA 9 (by omega) (by omega)]; exact q3, by show 0 ≤ x.2.1 + 1; omega, lvR_eq (fun j z y => ?_) q5⟩, by rw [fS 20 (by omega)]; exact g3, g4, by rw [fS 21 (by omega)]; exact g5, by rw [fS 21 (by omega)]; exact g6, g7, g8⟩
      · show a' 8 (r.length : Int) = if x.2.1 + 1 = 0 then 0 else 1
        rw [e8, e1, updI_s, if_neg (by omega)]
      · rw [fA 7 (by omega) (by omega), fA 9 (by omega) (by omega), e8, updI_n _ _ (by omega)]
        exact ⟨rfl, rfl, rfl⟩
    refine M_part hA (by omega) (by omega) (by rw [e1, q1]; omega) (by rw [e1, q1]; omega) h6 (by rw [e1, q2]; split <;> decide) (fun h => ?_) (fun h => ?_)
    · have hc : x.2.1 = 0 := by
        rw [e1, q2] at h
        by_cases z : x.2.1 = 0
        · exact z
        · rw [if_neg z] at h; omega
      refine k s _ (fun j _ => rfl) (fun j h1 h2 => by simp [updA, h2]) (fin s _ (fun j _ => rfl) (fun j h1 h2 => by simp [updA, h2]) rfl) ?_ (by omega) (by omega)
      show RW (flat (pPart (x :: r))) _ _
      rw [flat_part0 hc]
      exact ⟨w1, w2, w3⟩
    · have hc : 1 ≤ x.2.1 := by
        rw [e1, q2] at h
        by_cases z : x.2.1 = 0
        · rw [if_pos z] at h; omega
        · omega
      refine k (updS s 6 (s 6 + 1)) _ (fun j h => by simp [updS, h]) (fun j h1 h2 => by simp [updA, h1, h2]) (fin _ _ (fun j h => by simp [updS, h]) (fun j h1 h2 => by simp [updA, h1, h2]) rfl) ?_ (Int.le_refl _) (by show s 6 ≤ s 6 + 1; omega)
      show RW (flat (pPart (x :: r))) _ _
      rw [flat_part1 hc]
      refine ⟨?_, ?_, updI_in (mvI_in w3) (by decide)⟩
      · show s 6 + 1 = _
        rw [← hfl]
        show (((flat r ++ (List.replicate (x.2.1 - 1).toNat 0 ++ exs x.2.2)).length : Nat) : Int) + 1 = _
        simp only [List.length_append, List.length_cons]
        omega
      · show rg (updI (mvI (a 4) (a 7 (s 18 - 1)) (s 6)) (a 7 (s 18 - 1)) 0) _ 0 = _
        rw [e1, q1, ← hfl]
        exact ins_rg w2
theorem M_layT {d : Nat} {A B : List va_E} {s : Nat → Int} {vl : Int64} {a : Nat → Int → Int} {nm : Nat → Int64} {Q : Option Value → List va_E → Nat → Nat → Prop} {l : List Int} {x : Int} (hA : A.length = 18) (hw : RW l s a) (h6 : s 6 < 12000) (hx : in32 x) (k : ∀ s' a', (∀ j, j ≠ 6 → s' j = s j) → (∀ j, j ≠ 4 → a' j = a j) → RW (l ++ [x]) s' a' → s' 6 = s 6 + 1 → Q none (mh A s' vl a' nm B) 0 0) : pm_E none d pm_mm157 0 [(0, .ref 18), (1, .int (iI x))] [] (mh A s vl a nm B) 0 0 Q := by
  obtain ⟨w1, w2, w3⟩ := hw
  refine M_lay hA (by omega) h6 ?_
  refine k _ _ (fun j h => by simp [updS, h]) (fun j h => by simp [updA, h]) ⟨?_, rg_ext w2 w1 x, updI_in w3 hx⟩ rfl
  show s 6 + 1 = _
  rw [List.length_append, List.length_singleton]
  omega
theorem M_levelT {d : Nat} {A B : List va_E} {s : Nat → Int} {vl : Int64} {a : Nat → Int → Int} {nm : Nat → Int64} {Q : Option Value → List va_E → Nat → Nat → Prop} {S : PS} {x : Int} (hA : A.length = 18) (hR : RL S s a nm) (hw : RW (flat S.1) s a) (hx : (x = 0 ∧ (S.2.1.length : Int) + nP S.1 + 1 ≤ 40 ∧ S.2.2.2 = 0) ∨ (0 < x ∧ x = S.2.2.2)) (k : ∀ s' a', (∀ j, j ≠ 18 → s' j = s j) → (∀ j, j ≠ 7 → j ≠ 8 → j ≠ 9 → a' j = a j) → (∀ t : Int, (t = s 21 + (if x = 0 then 1 else 0)) → RL ((x, 0, []) :: S.1, S.2.1, 0, 0) (updS s' 21 t) a' nm) → RW (flat ((x, 0, []) :: S.1)) s' a' → Q none (mh A s' vl a' nm B) 0 0) : pm_E none d pm_mm150 0 [(0, .ref 18), (1, .int (iI x))] [] (mh A s vl a nm B) 0 0 Q := by
  have hl := RL_len hR
  obtain ⟨g1, g2, g3, g4, g5, g6, g7, g8, g9, g10⟩ := hR
  obtain ⟨w1, w2, w3⟩ := hw
  refine M_level hA (by omega) (by omega) ?_
  refine k _ _ (fun j h => by simp [updS, h]) (fun j h1 h2 h3 => by simp [updA, h1, h2, h3]) (fun t ht => ?_) ?_
  · refine ⟨?_, ⟨?_, ?_, ?_, Int.le_refl 0, lvR_eq (fun j z y => ?_) g2⟩, g3, g4, ?_, ?_, Or.inr ⟨by show 0 ≤ x; omega, g7⟩, ?_, Int.le_refl 0, g10⟩
    · show s 18 + 1 = ((S.1.length + 1 : Nat) : Int); omega
    · show updI (a 7) (s 18) (s 6) (S.1.length : Int) = _; rw [← g1, updI_s]; exact w1
    · show updI (a 8) (s 18) 0 (S.1.length : Int) = if (0 : Int) = 0 then 0 else 1; rw [← g1, updI_s]; rfl
    · show updI (a 9) (s 18) x (S.1.length : Int) = x; rw [← g1, updI_s]
    · show updI (a 7) (s 18) (s 6) j = a 7 j ∧ updI (a 8) (s 18) 0 j = a 8 j ∧ updI (a 9) (s 18) x j = a 9 j
      rw [updI_n _ _ (by omega), updI_n _ _ (by omega), updI_n _ _ (by omega)]
      exact ⟨rfl, rfl, rfl⟩
    · show t = (S.2.1.length : Int) + ((if x = 0 then 1 else 0) + nP S.1)
      omega
    · show t ≤ 40
      rcases hx with hx | hx
      · rw [if_pos hx.1] at ht; omega
      · rw [if_neg (by omega)] at ht; omega
    · show (if 0 < x then x else 0) + sK S.1 + 0 = S.2.1.length
      rcases hx with hx | hx
      · rw [if_neg (by omega)]; omega
      · rw [if_pos hx.1]; omega
  · have : flat ((x, 0, []) :: S.1) = flat S.1 := by
      show flat S.1 ++ ([] ++ []) = _
      rw [List.append_nil, List.append_nil]
    rw [this]
    exact ⟨w1, w2, w3⟩
