/-! THE REFERENCE: reading: next, part, lay by the reader's state -/
theorem pow_le9 {m : Int} (hm : 1 ≤ m) : ∀ {j k : Nat}, j ≤ k → m ^ j ≤ m ^ k := by
  intro j k h
  induction h with
  | refl => exact Int.le_refl _
  | step _ ih =>
    rename_i k _
    rw [Int.pow_succ]
    have h0 : 0 ≤ m ^ k := Int.pow_nonneg (by omega)
    have := Int.mul_le_mul_of_nonneg_left hm h0
    omega
theorem rdl_val {g : Int → Int} {lo hi m z w n b : Int} (hm : 1 ≤ m) (hd : ∀ c, lo ≤ c → c ≤ hi → 0 ≤ c - z ∧ c - z ≤ m - 1) (hw : 0 ≤ w) : ∀ (f : Nat) (i v : Int), b ≤ i → 0 ≤ v → v + 1 ≤ m ^ (min (i - b) w).toNat → 0 ≤ (rdl g lo hi m z w n b f i v).2 ∧ (rdl g lo hi m z w n b f i v).2 + 1 ≤ m ^ w.toNat := by
  intro f
  have base : ∀ (i v : Int), b ≤ i → 0 ≤ v → v + 1 ≤ m ^ (min (i - b) w).toNat → 0 ≤ v ∧ v + 1 ≤ m ^ w.toNat := fun i v h0 h1 h2 => ⟨h1, Int.le_trans h2 (pow_le9 hm (by omega))⟩
  induction f with
  | zero => intro i v h0 h1 h2; exact base i v h0 h1 h2
  | succ f ih =>
    intro i v h0 h1 h2
    by_cases h : i < n ∧ lo ≤ g i ∧ g i ≤ hi
    · have hc := hd (g i) h.2.1 h.2.2
      by_cases h3 : i - b < w
      · rw [rdl_y h.1 h.2.1 h.2.2 h3]
        have e1 : min (i - b) w = i - b := by omega
        have e2 : (min (i + 1 - b) w).toNat = (i - b).toNat + 1 := by omega
        rw [e1] at h2
        have hmv := Int.mul_nonneg (show 0 ≤ m by omega) h1
        refine ih (i + 1) _ (by omega) (by omega) ?_
        have hp : m ^ ((i - b).toNat + 1) = m * m ^ (i - b).toNat := by rw [Int.pow_succ, Int.mul_comm]
        rw [e2, hp]
        have := Int.mul_le_mul_of_nonneg_left h2 (show 0 ≤ m by omega)
        rw [Int.mul_add, Int.mul_one] at this
        omega
      · rw [rdl_z h.1 h.2.1 h.2.2 (by omega)]
        refine ih (i + 1) v (by omega) h1 ?_
        rw [show min (i + 1 - b) w = min (i - b) w by omega]; exact h2
    · rw [rdl_n (by omega)]; exact base i v h0 h1 h2
theorem lof_b {c : Int} (h : lof c ≠ -4) : 0 ≤ lof c ∧ lof c ≤ 6 := by
  have h2 : lof c = 2 ∨ lof c = 3 ∨ lof c = 4 ∨ lof c = 5 ∨ lof c = 6 ∨ lof c = -4 := by
    unfold lof
    repeat' split
    all_goals simp
  omega
theorem tok_val {b : Int → Int} {n i : Int} (hb : ∀ j, 0 ≤ b j ∧ b j ≤ 255) : 0 ≤ (tok b n i).2.1 ∧ (tok b n i).2.1 ≤ 282429536481 := by
  unfold tok
  generalize skp b n 600 i = p
  split
  · exact ⟨Int.le_refl 0, by show (0 : Int) ≤ _; omega⟩
  · split
    · have h := rdl_val (g := b) (lo := 97) (hi := 122) (m := 27) (z := 96) (w := 8) (n := n) (b := p) (by omega) (fun c _ _ => by omega) (by omega) 600 p 0 (by omega) (by omega) (by rw [show (min (p - p) 8).toNat = 0 by omega]; decide)
      split
      · refine ⟨h.1, ?_⟩
        have h2 := h.2
        rw [show (27 : Int) ^ (8 : Int).toNat = 282429536481 from by decide] at h2
        show (rdl b 97 122 27 96 8 n p 600 p 0).2 ≤ _
        omega
      · exact ⟨Int.le_refl 0, by show (0 : Int) ≤ _; omega⟩
    · split
      · have h := rdl_val (g := b) (lo := 48) (hi := 57) (m := 10) (z := 48) (w := 2) (n := n) (b := p) (by omega) (fun c _ _ => by omega) (by omega) 600 p 0 (by omega) (by omega) (by rw [show (min (p - p) 2).toNat = 0 by omega]; decide)
        split
        · rename_i c3
          refine ⟨h.1, ?_⟩
          show (rdl b 48 57 10 48 2 n p 600 p 0).2 ≤ _
          omega
        · exact ⟨Int.le_refl 0, by show (0 : Int) ≤ _; omega⟩
      · split
        · rename_i c4
          have := lof_b c4
          exact ⟨this.1, by show lof (b p) ≤ _; omega⟩
        · split
          · have := hb p
            exact ⟨this.1, by show b p ≤ _; omega⟩
          · exact ⟨Int.le_refl 0, by show (0 : Int) ≤ _; omega⟩
def tkS (b : Int → Int) (n i : Int) (s : Nat → Int) (v : Int) : Prop := ((tok b n i).1 = -1 ∧ s 13 = 1 ∧ s 14 = (tok b n i).2.2.1) ∨ (0 ≤ (tok b n i).1 ∧ s 13 = 0 ∧ s 11 = (tok b n i).1 ∧ v = (tok b n i).2.1 ∧ s 10 = (tok b n i).2.2.1 ∧ s 9 = (tok b n i).2.2.2)
set_option maxHeartbeats 4000000 in
theorem M_nextT {d : Nat} {A B : List va_E} {s : Nat → Int} {vl : Int64} {a : Nat → Int → Int} {nm : Nat → Int64} {Q : Option Value → List va_E → Nat → Nat → Prop} (hA : A.length = 18) (hb : ∀ j, 0 ≤ a 3 j ∧ a 3 j ≤ 255) (h13 : s 13 = 0) (h4 : 0 ≤ s 4) (h5 : s 4 ≤ 600) (h9 : 0 ≤ s 9) (h9' : s 9 ≤ s 4) (k : ∀ s' v, (∀ j, j ≠ 9 → j ≠ 10 → j ≠ 11 → j ≠ 13 → j ≠ 14 → s' j = s j) → tkS (a 3) (s 4) (s 9) s' v → (0 ≤ v ∧ v ≤ 282429536481) → Q none (mh A s' (lI v) a nm B) 0 0) : pm_E none (d + 1) pm_mm151 0 [(0, .ref 18)] [] (mh A s vl a nm B) 0 0 Q := by
  have tv := tok_val (b := a 3) (n := s 4) (i := s 9) hb
  have z0 : (0 : Int) ≤ 0 ∧ (0 : Int) ≤ 282429536481 := by omega
  have v1 := rdl_val (g := a 3) (lo := 97) (hi := 122) (m := 27) (z := 96) (w := 8) (n := s 4) (b := skp (a 3) (s 4) 600 (s 9)) (by omega) (fun c _ _ => by omega) (by omega) 600 (skp (a 3) (s 4) 600 (s 9)) 0 (by omega) (by omega) (by rw [show (min (skp (a 3) (s 4) 600 (s 9) - skp (a 3) (s 4) 600 (s 9)) 8).toNat = 0 by omega]; decide)
  have v2 := rdl_val (g := a 3) (lo := 48) (hi := 57) (m := 10) (z := 48) (w := 2) (n := s 4) (b := skp (a 3) (s 4) 600 (s 9)) (by omega) (fun c _ _ => by omega) (by omega) 600 (skp (a 3) (s 4) 600 (s 9)) 0 (by omega) (by omega) (by rw [show (min (skp (a 3) (s 4) 600 (s 9) - skp (a 3) (s 4) 600 (s 9)) 2).toNat = 0 by omega]; decide)
  rw [show (27 : Int) ^ (8 : Int).toNat = 282429536481 from by decide] at v1
  rw [show (10 : Int) ^ (2 : Int).toNat = 100 from by decide] at v2
  unfold tok at tv
  refine M_next hA hb h13 h4 h5 h9 h9' ?_ ?_ ?_ ?_ ?_ ?_ ?_ ?_
  · intro i hi h
    subst hi
    refine k _ 0 (fun j q1 q2 q3 q4 q5 => by simp [updS, q1, q2, q3]) (Or.inr ?_) z0
    unfold tok
    rw [if_pos h]
    exact ⟨Int.le_refl 0, h13, rfl, rfl, rfl, rfl⟩
  · intro i p hi h h1 h2 hp h3
    subst hi; subst hp
    refine k _ _ (fun j q1 q2 q3 q4 q5 => by simp [updS, q1, q2, q3]) (Or.inr ?_) ⟨v1.1, by omega⟩
    unfold tok
    rw [if_neg (by omega), if_pos ⟨h1, h2⟩, if_pos h3]
    exact ⟨(by decide : (0 : Int) ≤ 1), h13, rfl, rfl, rfl, rfl⟩
  · intro i p hi h h1 h2 hp h3
    subst hi; subst hp
    refine k _ _ (fun j q1 q2 q3 q4 q5 => by simp [updS, q1, q2, q3, q4, q5]) (Or.inl ?_) ⟨v1.1, by omega⟩
    unfold tok
    rw [if_neg (by omega), if_pos ⟨h1, h2⟩, if_neg (by omega)]
    exact ⟨rfl, rfl, rfl⟩
  · intro i p hi h h1 h2 hp h3
    subst hi; subst hp
    refine k _ _ (fun j q1 q2 q3 q4 q5 => by simp [updS, q1, q2, q3]) (Or.inr ?_) ⟨v2.1, by omega⟩
    unfold tok
    rw [if_neg (by omega), if_neg (by omega), if_pos ⟨h1, h2⟩, if_pos h3]
    exact ⟨(by decide : (0 : Int) ≤ 2), h13, rfl, rfl, rfl, rfl⟩
  · intro i p hi h h1 h2 hp h3
    subst hi; subst hp
    refine k _ _ (fun j q1 q2 q3 q4 q5 => by simp [updS, q1, q2, q3, q4, q5]) (Or.inl ?_) ⟨v2.1, by omega⟩
    unfold tok
    rw [if_neg (by omega), if_neg (by omega), if_pos ⟨h1, h2⟩, if_neg (by omega)]
    exact ⟨rfl, rfl, rfl⟩
  · intro i hi h h1 h2 h3
    subst hi
    have hl : 0 ≤ lof (a 3 (skp (a 3) (s 4) 600 (s 9))) ∧ lof (a 3 (skp (a 3) (s 4) 600 (s 9))) ≤ 282429536481 := by
      have := lof_b h3
      omega
    refine k _ _ (fun j q1 q2 q3 q4 q5 => by simp [updS, q1, q2, q3]) (Or.inr ?_) hl
    unfold tok
    rw [if_neg (by omega), if_neg (by omega), if_neg (by omega), if_pos h3]
    exact ⟨(by decide : (0 : Int) ≤ 3), h13, rfl, rfl, rfl, rfl⟩
  · intro i hi h h1 h2
    subst hi
    have hbb := hb (skp (a 3) (s 4) 600 (s 9))
    refine k _ _ (fun j q1 q2 q3 q4 q5 => by simp [updS, q1, q2, q3]) (Or.inr ?_) ⟨hbb.1, by omega⟩
    unfold tok
    rw [if_neg (by omega), if_neg (by omega), if_neg (by omega), if_neg (by omega), if_pos h2]
    exact ⟨(by decide : (0 : Int) ≤ 4), h13, rfl, rfl, rfl, rfl⟩
  · intro i hi h h1 h2 h3 h4' h5' h6 h7
    subst hi
    refine k _ _ (fun j q1 q2 q3 q4 q5 => by simp [updS, q1, q2, q4, q5]) (Or.inl ?_) z0
    unfold tok
    rw [if_neg (by omega), if_neg (by omega), if_neg (by omega), if_neg (by omega), if_neg (by omega)]
    exact ⟨rfl, rfl, rfl⟩
