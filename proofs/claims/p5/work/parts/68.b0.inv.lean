/-! THE LAW: one heap, two views; what holds at every turn -/
def kA18 (kd pl : Nat → Nat) (s : Nat → Int) (a : Nat → Int → Int) (c : Nat → cdt) : List va_E := (List.range 18).map (fun q => kc pl s a c [] (kd q))
def kB50 (n : Nat) (kd pl : Nat → Nat) (s : Nat → Int) (a : Nat → Int → Int) (c : Nat → cdt) : List va_E := (List.range (n - 50)).map (fun q => kc pl s a c [] (kd (50 + q)))
section LAW
variable {n : Nat} {kd pl : Nat → Nat} {s : Nat → Int} {a : Nat → Int → Int} {c : Nat → cdt} {M : List va_E} {s1 : Nat → Int} {v1 : Int64} {a1 : Nat → Int → Int} {nm1 : Nat → Int64}
theorem kA18_len : (kA18 kd pl s a c).length = 18 := by unfold kA18; rw [List.length_map, List.length_range]
theorem kc_nil {k : Nat} (h : k < 18 ∨ 50 ≤ k) : kc pl s a c M k = kc pl s a c [] k := by
  unfold kc
  by_cases h1 : k < 18
  · rw [if_pos h1, if_pos h1]
  · rw [if_neg h1, if_neg h1, if_neg (show ¬ k < 50 by omega), if_neg (show ¬ k < 50 by omega)]
theorem mc_len : (mc s1 v1 a1 nm1).length = 32 := rfl
theorem ch_mh (hW : wf n kd pl) (hn : 50 ≤ n) (hq : ∀ q, 18 ≤ q → q < 50 → al n kd pl q ∧ pl q = q) : ch n kd pl s a c (mc s1 v1 a1 nm1) = mh (kA18 kd pl s a c) s1 v1 a1 nm1 (kB50 n kd pl s a c) := by
  unfold mh
  have hout : ∀ q, q < n → (q < 18 ∨ 50 ≤ q) → (kd q < 18 ∨ 50 ≤ kd q) := fun q h0 h1 => by
    by_cases h2 : 18 ≤ kd q ∧ kd q < 50
    · have h3 := (hq (kd q) h2.1 h2.2).2
      rw [hW.1 q h0] at h3
      omega
    · omega
  refine List.ext_getElem? (fun q => ?_)
  have hl : (ch n kd pl s a c (mc s1 v1 a1 nm1))[q]? = if q < n then some (kc pl s a c (mc s1 v1 a1 nm1) (kd q)) else none := by
    unfold ch
    by_cases h : q < n
    · rw [if_pos h, List.getElem?_map, List.getElem?_range h, Option.map_some]
    · rw [if_neg h, List.getElem?_eq_none (by rw [List.length_map, List.length_range]; omega)]
  rw [hl]
  by_cases h18 : q < 18
  · rw [if_pos (by omega), List.getElem?_append_left (by rw [kA18_len]; exact h18), kc_nil (hout q (by omega) (Or.inl h18))]
    unfold kA18
    rw [List.getElem?_map, List.getElem?_range h18, Option.map_some]
  · rw [List.getElem?_append_right (by rw [kA18_len]; omega), kA18_len]
    by_cases h50 : q < 50
    · have hk : kd q = q := by
        have h3 := hq q (by omega) h50
        have h4 := h3.1.2
        rw [h3.2] at h4
        exact h4
      rw [if_pos (by omega), List.getElem?_append_left (by rw [mc_len]; omega), hk]
      have e : kc pl s a c (mc s1 v1 a1 nm1) q = (mc s1 v1 a1 nm1).getD (q - 18) (.inr (0, [])) := by
        unfold kc
        rw [if_neg h18, if_pos h50]
      rw [e, List.getD_eq_getElem?_getD]
      have hlt : q - 18 < (mc s1 v1 a1 nm1).length := by rw [mc_len]; omega
      rw [List.getElem?_eq_getElem hlt]
      rfl
    · rw [List.getElem?_append_right (by rw [mc_len]; omega), mc_len]
      unfold kB50
      rw [List.getElem?_map]
      by_cases h : q < n
      · rw [if_pos h, List.getElem?_range (by omega), Option.map_some, show 50 + (q - 18 - 32) = q by omega, kc_nil (hout q h (Or.inr (by omega)))]
      · rw [if_neg h, List.getElem?_eq_none (by rw [List.length_range]; omega)]
        rfl
theorem mc_norm : mc s1 v1 a1 nm1 = mc s1 v1 (nrA a1) nm1 := by
  unfold mc
  simp only [nrA, aI_nrI]
end LAW
/-- the class's side -/
def cI (n : Nat) (kd pl : Nat → Nat) (s : Nat → Int) (a : Nat → Int → Int) (c : Nat → cdt) (N : Int) (T : Int → List Int) : Prop :=
  (wf n kd pl ∧ 50 ≤ n ∧ ∀ q, 18 ≤ q → q < 50 → al n kd pl q ∧ pl q = q) ∧ cS n kd pl s c N T ∧
  (∀ i : Nat, N ≤ i → i < 32 → (al n kd pl (60 + 2 * (6 + i)) ∧ okx (rm (6 + i)) (c (6 + i))) ∨ (pl (60 + 2 * (6 + i)) = 0 ∧ pl (61 + 2 * (6 + i)) = 0)) ∧
  (0 ≤ s 4 ∧ s 4 ≤ 600) ∧ (∀ j, 0 ≤ a 0 j ∧ a 0 j ≤ 255) ∧ (okx (rm 0) (c 0) ∧ okx (rm 1) (c 1)) ∧ (0 ≤ s 14 ∧ s 14 < 2147483648) ∧
  ((∀ k ∈ KA, pl k = 0) ∨ (al n kd pl 200 ∧ okx (rm 2) (c 2) ∧ okx (rm 3) (c 3))) ∧ ((∀ k ∈ KY, pl k = 0) ∨ (al n kd pl 203 ∧ okx (rm 4) (c 4) ∧ okx (rm 5) (c 5)))
/-- what told and fault tell: the same -/
def tl2 (s s1 : Nat → Int) : Prop := s1 30 = s 2 ∧ s1 31 = s 3 ∧ in32 (s1 30) ∧ in32 (s1 31)
def tld (s s1 : Nat → Int) : Prop := tl2 s s1 ∧ s1 13 = s 1 ∧ in32 (s1 13)
theorem tl2_c {s s' s1 : Nat → Int} (h : tl2 s s1) (h2 : s' 2 = s 2) (h3 : s' 3 = s 3) : tl2 s' s1 := ⟨h.1.trans h2.symm, h.2.1.trans h3.symm, h.2.2⟩
theorem tl2_m {s s1 s1' : Nat → Int} (h : tl2 s s1) (h2 : s1' 30 = s1 30) (h3 : s1' 31 = s1 31) : tl2 s s1' := ⟨h2.trans h.1, h3.trans h.2.1, by rw [h2]; exact h.2.2.1, by rw [h3]; exact h.2.2.2⟩
theorem tld_c {s s' s1 : Nat → Int} (h : tld s s1) (h2 : s' 2 = s 2) (h3 : s' 3 = s 3) (h1 : s' 1 = s 1) : tld s' s1 := ⟨tl2_c h.1 h2 h3, h.2.1.trans h1.symm, h.2.2⟩
theorem tld_m {s s1 s1' : Nat → Int} (h : tld s s1) (h2 : s1' 30 = s1 30) (h3 : s1' 31 = s1 31) (h1 : s1' 13 = s1 13) : tld s s1' := ⟨tl2_m h.1 h2 h3, h1.trans h.2.1, by rw [h1]; exact h.2.2⟩
theorem tld_n {s s1 : Nat → Int} (h : tld s s1) : tld (nrS s) s1 := by
  obtain ⟨⟨h1, h2, h3, h4⟩, h5, h6⟩ := h
  exact tld_c ⟨⟨h1, h2, h3, h4⟩, h5, h6⟩ (iI_t (by rw [← h1]; exact h3)) (iI_t (by rw [← h2]; exact h4)) (iI_t (by rw [← h5]; exact h6))
/-- the reference's side: the same terms, the same tape -/
def mI (s : Nat → Int) (a : Nat → Int → Int) (s1 : Nat → Int) (a1 : Nat → Int → Int) (N : Int) (T : Int → List Int) : Prop := sh s1 a1 N T ∧ s1 4 = s 4 ∧ a1 3 = a 0 ∧ 0 ≤ s1 45 ∧ s1 45 ≤ 500 ∧ tld s s1
def wt (pl : Nat → Nat) : Nat := (if pl 200 = 0 then 0 else 3600) + (if pl 203 = 0 then 0 else 16020)
def LI (t n : Nat) (kd pl : Nat → Nat) (s : Nat → Int) (a : Nat → Int → Int) (c : Nat → cdt) (s1 : Nat → Int) (a1 : Nat → Int → Int) (nc ns : Nat) : Prop := ∃ N T, okT N T ∧ cI n kd pl s a c N T ∧ mI s a s1 a1 N T ∧ nc ≤ 50 + 12 * t ∧ ns ≤ 194358 + 503 * t + wt pl
section LAW
variable {n n' : Nat} {kd pl kd' pl' : Nat → Nat} {s s' : Nat → Int} {a a' : Nat → Int → Int} {c c' : Nat → cdt} {N : Int} {T : Int → List Int}
theorem al_k0 (hW : wf n kd pl) (h : pl 200 = 0 → False) : al n kd pl 200 := hW.2.2.2.2.2.1 200 h
theorem wt_le (hg : grw n kd pl n' kd' pl') (hW : wf n kd pl) : wt pl ≤ wt pl' := by
  have h : ∀ k, k ≠ 0 → pl k ≠ 0 → pl' k ≠ 0 := fun k k0 h => al_pos hg.1 (hg.2.2 k (hW.2.2.2.2.2.1 k h)).1 k0
  have h1 := h 200 (by decide)
  have h2 := h 203 (by decide)
  unfold wt
  by_cases e1 : pl 200 = 0
  · by_cases e2 : pl 203 = 0
    · rw [if_pos e1, if_pos e2]; omega
    · rw [if_pos e1, if_neg e2, if_neg (h2 e2)]; omega
  · by_cases e2 : pl 203 = 0
    · rw [if_neg e1, if_pos e2, if_neg (h1 e1)]; omega
    · rw [if_neg e1, if_neg e2, if_neg (h1 e1), if_neg (h2 e2)]; omega
theorem wt_A (hg : grw n kd pl n' kd' pl') (hW : wf n kd pl) (h0 : pl 200 = 0) (h' : al n' kd' pl' 200) : wt pl + 3600 ≤ wt pl' := by
  have h : ∀ k, k ≠ 0 → pl k ≠ 0 → pl' k ≠ 0 := fun k k0 h => al_pos hg.1 (hg.2.2 k (hW.2.2.2.2.2.1 k h)).1 k0
  have h2 := h 203 (by decide)
  have h3 := al_pos hg.1 h' (by decide)
  unfold wt
  by_cases e2 : pl 203 = 0
  · rw [if_pos h0, if_pos e2, if_neg h3]; omega
  · rw [if_pos h0, if_neg e2, if_neg h3, if_neg (h2 e2)]; omega
theorem wt_Y (hg : grw n kd pl n' kd' pl') (hW : wf n kd pl) (h0 : pl 203 = 0) (h' : al n' kd' pl' 203) : wt pl + 16020 ≤ wt pl' := by
  have h : ∀ k, k ≠ 0 → pl k ≠ 0 → pl' k ≠ 0 := fun k k0 h => al_pos hg.1 (hg.2.2 k (hW.2.2.2.2.2.1 k h)).1 k0
  have h2 := h 200 (by decide)
  have h3 := al_pos hg.1 h' (by decide)
  unfold wt
  by_cases e2 : pl 200 = 0
  · rw [if_pos h0, if_pos e2, if_neg h3]; omega
  · rw [if_pos h0, if_neg e2, if_neg h3, if_neg (h2 e2)]; omega
theorem mid_grw (hg : grw n kd pl n' kd' pl') (h : wf n kd pl ∧ 50 ≤ n ∧ ∀ q, 18 ≤ q → q < 50 → al n kd pl q ∧ pl q = q) : wf n' kd' pl' ∧ 50 ≤ n' ∧ ∀ q, 18 ≤ q → q < 50 → al n' kd' pl' q ∧ pl' q = q := ⟨hg.1, Nat.le_trans h.2.1 hg.2.1, fun q h1 h2 => by
  obtain ⟨x1, x2⟩ := h.2.2 q h1 h2
  obtain ⟨y1, y2⟩ := hg.2.2 q x1
  exact ⟨y1, y2.trans x2⟩⟩
/-- the class's side again, when cells, codes, scalars have moved: what each piece needs -/
theorem cI_s (h : cI n kd pl s a c N T) (h0 : s' 0 = s 0) (h4 : 0 ≤ s' 4 ∧ s' 4 ≤ 600) (h14 : 0 ≤ s' 14 ∧ s' 14 < 2147483648) (ha : ∀ j, 0 ≤ a' 0 j ∧ a' 0 j ≤ 255) : cI n kd pl s' a' c N T := by
  obtain ⟨g1, g2, g3, g4, g5, g6, g7, g8, g9⟩ := h
  exact ⟨g1, ⟨h0.trans g2.1, g2.2⟩, g3, h4, ha, g6, h14, g8, g9⟩
theorem cI_N (hok : okT N T) (hs : ∀ i, in32 (s i)) (h : cI n kd pl s a c N T) : cI n kd pl s (nrA a) c N T := by
  refine cI_s h rfl h.2.2.2.1 h.2.2.2.2.2.2.1 (fun j => ?_)
  have h5 := h.2.2.2.2.1 j
  show 0 ≤ nrI (a 0) j ∧ nrI (a 0) j ≤ 255
  rw [nrI_eq ⟨by omega, by omega⟩]
  exact h5
theorem cI_S (h : cI n kd pl s a c N T) : cI n kd pl (nrS s) a c N T := by
  have h0 : nrS s 0 = s 0 := by
    have := h.2.1.1
    have h2 := h.2.1.2.1
    have h3 := h.2.1.2.2.1
    exact iI_t ⟨by omega, by omega⟩
  have e4 : nrS s 4 = s 4 := by have := h.2.2.2.1; exact iI_t ⟨by omega, by omega⟩
  have e14 : nrS s 14 = s 14 := by have := h.2.2.2.2.2.2.1; exact iI_t ⟨by omega, by omega⟩
  exact cI_s h h0 (by rw [e4]; exact h.2.2.2.1) (by rw [e14]; exact h.2.2.2.2.2.2.1) h.2.2.2.2.1
/-- a term more -/
theorem cI_add {l : List Int} {y : cdt} (h : cI n kd pl s a c N T) (hg : grw n kd pl n' kd' pl') (hlt : s 0 < 32) (hal : al n' kd' pl' (60 + 2 * (6 + (s 0).toNat))) (hy : md y (rm (6 + (s 0).toNat)) l)
    (h0 : s' 0 = s 0 + 1) (h4 : 0 ≤ s' 4 ∧ s' 4 ≤ 600) (h14 : 0 ≤ s' 14 ∧ s' 14 < 2147483648) (ha : ∀ j, 0 ≤ a' 0 j ∧ a' 0 j ≤ 255)
    (hc : ∀ i, i ≠ 2 → i ≠ 3 → i ≠ 6 + (s 0).toNat → c' i = c i) (h23 : (∀ k ∈ KA, pl' k = 0) ∨ (al n' kd' pl' 200 ∧ okx (rm 2) (c' 2) ∧ okx (rm 3) (c' 3)))
    (hr : ∀ k, k ∉ KA → k ≠ 60 + 2 * (6 + (s 0).toNat) → k ≠ 61 + 2 * (6 + (s 0).toNat) → pl' k = pl k) : cI n' kd' pl' s' a' (updC c' (6 + (s 0).toNat) y) (N + 1) (upT T N l) := by
  obtain ⟨g1, ⟨q1, q2, q3, q4⟩, g3, g4, g5, g6, g7, g8, g9⟩ := h
  have hKA : ∀ i : Nat, i < 38 → 6 ≤ i → 60 + 2 * i ∉ KA ∧ 61 + 2 * i ∉ KA := fun i h1 h2 => by
    constructor <;> (simp only [KA, List.mem_cons, List.not_mem_nil, or_false]; omega)
  refine ⟨mid_grw hg g1, ⟨by omega, by omega, by omega, fun t t0 t1 => ?_⟩, fun i i0 i1 => ?_, h4, ha, ?_, h14, ?_, ?_⟩
  · by_cases e : t = N
    · have e2 : 6 + t.toNat = 6 + (s 0).toNat := by omega
      unfold upT
      rw [if_pos e, e2, updC_at]
      exact ⟨hal, hy⟩
    · obtain ⟨z1, z2⟩ := q4 t t0 (by omega)
      unfold upT
      rw [if_neg e, updC_n (by omega), hc _ (by omega) (by omega) (by omega)]
      exact ⟨(hg.2.2 _ z1).1, z2⟩
  · rcases g3 i (by omega) i1 with ⟨z1, z2⟩ | ⟨z1, z2⟩
    · exact Or.inl ⟨(hg.2.2 _ z1).1, by rw [updC_n (by omega), hc _ (by omega) (by omega) (by omega)]; exact z2⟩
    · obtain ⟨k1, k2⟩ := hKA (6 + i) (by omega) (by omega)
      exact Or.inr ⟨by rw [hr _ k1 (by omega) (by omega)]; exact z1, by rw [hr _ k2 (by omega) (by omega)]; exact z2⟩
  · exact ⟨by rw [updC_n (by omega), hc 0 (by decide) (by decide) (by omega)]; exact g6.1, by rw [updC_n (by omega), hc 1 (by decide) (by decide) (by omega)]; exact g6.2⟩
  · rcases h23 with z | ⟨z1, z2, z3⟩
    · exact Or.inl z
    · exact Or.inr ⟨z1, by rw [updC_n (by omega)]; exact z2, by rw [updC_n (by omega)]; exact z3⟩
  · rcases g9 with z | ⟨z1, z2, z3⟩
    · refine Or.inl (fun k hk => ?_)
      have hk' := hk
      simp only [KY, List.mem_cons, List.not_mem_nil, or_false] at hk'
      rw [hr k (by simp only [KA, List.mem_cons, List.not_mem_nil, or_false]; omega) (by omega) (by omega)]
      exact z k hk
    · exact Or.inr ⟨(hg.2.2 _ z1).1, by rw [updC_n (by omega), hc 4 (by decide) (by decide) (by omega)]; exact z2, by rw [updC_n (by omega), hc 5 (by decide) (by decide) (by omega)]; exact z3⟩
/-- the next row is used, but no term more -/
theorem cI_use {y : cdt} (h : cI n kd pl s a c N T) (hg : grw n kd pl n' kd' pl') (hlt : s 0 < 32) (hal : al n' kd' pl' (60 + 2 * (6 + (s 0).toNat))) (hy : okx (rm (6 + (s 0).toNat)) y)
    (h0 : s' 0 = s 0) (h4 : 0 ≤ s' 4 ∧ s' 4 ≤ 600) (h14 : 0 ≤ s' 14 ∧ s' 14 < 2147483648) (ha : ∀ j, 0 ≤ a' 0 j ∧ a' 0 j ≤ 255)
    (hc : ∀ i, i ≠ 2 → i ≠ 3 → i ≠ 6 + (s 0).toNat → c' i = c i) (h23 : (∀ k ∈ KA, pl' k = 0) ∨ (al n' kd' pl' 200 ∧ okx (rm 2) (c' 2) ∧ okx (rm 3) (c' 3)))
    (hr : ∀ k, k ∉ KA → k ≠ 60 + 2 * (6 + (s 0).toNat) → k ≠ 61 + 2 * (6 + (s 0).toNat) → pl' k = pl k) : cI n' kd' pl' s' a' (updC c' (6 + (s 0).toNat) y) N T := by
  obtain ⟨g1, ⟨q1, q2, q3, q4⟩, g3, g4, g5, g6, g7, g8, g9⟩ := h
  have hKA : ∀ i : Nat, i < 38 → 6 ≤ i → 60 + 2 * i ∉ KA ∧ 61 + 2 * i ∉ KA := fun i h1 h2 => by
    constructor <;> (simp only [KA, List.mem_cons, List.not_mem_nil, or_false]; omega)
  refine ⟨mid_grw hg g1, ⟨by omega, by omega, by omega, fun t t0 t1 => ?_⟩, fun i i0 i1 => ?_, h4, ha, ?_, h14, ?_, ?_⟩
  · obtain ⟨z1, z2⟩ := q4 t t0 (by omega)
    rw [updC_n (by omega), hc _ (by omega) (by omega) (by omega)]
    exact ⟨(hg.2.2 _ z1).1, z2⟩
  · by_cases e : i = (s 0).toNat
    · subst e
      rw [updC_at]
      exact Or.inl ⟨hal, hy⟩
    · rcases g3 i (by omega) i1 with ⟨z1, z2⟩ | ⟨z1, z2⟩
      · exact Or.inl ⟨(hg.2.2 _ z1).1, by rw [updC_n (by omega), hc _ (by omega) (by omega) (by omega)]; exact z2⟩
      · obtain ⟨k1, k2⟩ := hKA (6 + i) (by omega) (by omega)
        exact Or.inr ⟨by rw [hr _ k1 (by omega) (by omega)]; exact z1, by rw [hr _ k2 (by omega) (by omega)]; exact z2⟩
  · exact ⟨by rw [updC_n (by omega), hc 0 (by decide) (by decide) (by omega)]; exact g6.1, by rw [updC_n (by omega), hc 1 (by decide) (by decide) (by omega)]; exact g6.2⟩
  · rcases h23 with z | ⟨z1, z2, z3⟩
    · exact Or.inl z
    · exact Or.inr ⟨z1, by rw [updC_n (by omega)]; exact z2, by rw [updC_n (by omega)]; exact z3⟩
  · rcases g9 with z | ⟨z1, z2, z3⟩
    · refine Or.inl (fun k hk => ?_)
      have hk' := hk
      simp only [KY, List.mem_cons, List.not_mem_nil, or_false] at hk'
      rw [hr k (by simp only [KA, List.mem_cons, List.not_mem_nil, or_false]; omega) (by omega) (by omega)]
      exact z k hk
    · exact Or.inr ⟨(hg.2.2 _ z1).1, by rw [updC_n (by omega), hc 4 (by decide) (by decide) (by omega)]; exact z2, by rw [updC_n (by omega), hc 5 (by decide) (by decide) (by omega)]; exact z3⟩
end LAW
