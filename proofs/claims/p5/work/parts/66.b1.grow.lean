/-! THE CLASS: several cells are made: what stands stays -/
def kdL (kd : Nat → Nat) (n : Nat) (K : List Nat) : Nat → Nat := fun q => if q < n then kd q else K.getD (q - n) 0
def plL (pl : Nat → Nat) (n : Nat) (K : List Nat) : Nat → Nat := fun k => if k ∈ K then n + K.idxOf k else pl k
section GRW
variable {n : Nat} {kd pl : Nat → Nat} {K : List Nat} {k q : Nat}
theorem plL_o (h : k ∉ K) : plL pl n K k = pl k := if_neg h
theorem plL_i (h : k ∈ K) : plL pl n K k = n + K.idxOf k := if_pos h
theorem kdL_o (h : q < n) : kdL kd n K q = kd q := if_pos h
theorem kdL_n (h : ¬ q < n) : kdL kd n K q = K.getD (q - n) 0 := if_neg h
theorem idx_lt (h : k ∈ K) : K.idxOf k < K.length := List.idxOf_lt_length_iff.mpr h
theorem idx_at (h : k ∈ K) : K.getD (K.idxOf k) 0 = k := by
  rw [List.getD_eq_getElem?_getD, List.getElem?_eq_getElem (idx_lt h), Option.getD_some]
  exact List.getElem_idxOf (idx_lt h)
theorem alL_n (h : k ∈ K) : al (n + K.length) (kdL kd n K) (plL pl n K) k := by
  have hl := idx_lt h
  unfold al
  rw [plL_i h, kdL_n (by omega), show n + K.idxOf k - n = K.idxOf k by omega, idx_at h]
  exact ⟨by omega, rfl⟩
theorem alL_ne (hW : wf n kd pl) (hno : ∀ k ∈ K, pl k = 0 ∧ k ≠ 0) (h : al n kd pl k) : k ∉ K := fun hk => al_pos hW h (hno k hk).2 (hno k hk).1
theorem alL_o (hW : wf n kd pl) (hno : ∀ k ∈ K, pl k = 0 ∧ k ≠ 0) (h : al n kd pl k) : al (n + K.length) (kdL kd n K) (plL pl n K) k ∧ plL pl n K k = pl k := by
  have hk := alL_ne hW hno h
  refine ⟨?_, plL_o hk⟩
  unfold al
  rw [plL_o hk, kdL_o h.1]
  exact ⟨by have := h.1; omega, h.2⟩
theorem alL_inv (h : al (n + K.length) (kdL kd n K) (plL pl n K) k) : k ∈ K ∨ al n kd pl k := by
  by_cases hk : k ∈ K
  · exact Or.inl hk
  right
  unfold al at h ⊢
  rw [plL_o hk] at h
  by_cases hq : pl k < n
  · rw [kdL_o hq] at h; exact ⟨hq, h.2⟩
  · exfalso
    rw [kdL_n hq] at h
    have hl : pl k - n < K.length := by omega
    rw [List.getD_eq_getElem?_getD, List.getElem?_eq_getElem hl, Option.getD_some] at h
    exact hk (by rw [← h.2]; exact List.getElem_mem hl)
theorem grwL (hW : wf n kd pl) (hnd : K.Nodup) (hno : ∀ k ∈ K, pl k = 0 ∧ k ≠ 0) (h1 : ∀ j, j < 38 → 60 + 2 * j ∈ K → 61 + 2 * j ∈ K) (h2 : 200 ∈ K → ∀ k ∈ [201, 202, 64, 66], k ∈ K) (h3 : 203 ∈ K → ∀ k ∈ [204, 205, 206, 207, 208, 209, 210, 68, 70], k ∈ K) : grw n kd pl (n + K.length) (kdL kd n K) (plL pl n K) := by
  have up : ∀ {k : Nat}, al n kd pl k → al (n + K.length) (kdL kd n K) (plL pl n K) k := fun h => (alL_o hW hno h).1
  have k0 := (hW.2.1 0 (by decide)).2
  rw [hW.2.2.2.2.2.2] at k0
  refine ⟨⟨fun q hq => ?_, fun k hk => up (hW.2.1 k hk), fun j j38 hj => ?_, fun h k hk => ?_, fun h k hk => ?_, fun k hk => ?_, ?_⟩, Nat.le_add_right _ _, fun k h => alL_o hW hno h⟩
  · by_cases q0 : q < n
    · have hp := hW.1 q q0
      rw [kdL_o q0, plL_o]
      · exact hp
      · intro h
        obtain ⟨h4, h5⟩ := hno _ h
        rw [h4] at hp
        rw [← hp] at h5
        exact h5 k0
    · have hl : q - n < K.length := by omega
      have e : K.getD (q - n) 0 = K[q - n] := by rw [List.getD_eq_getElem?_getD, List.getElem?_eq_getElem hl, Option.getD_some]
      rw [kdL_n q0, e, plL_i (List.getElem_mem hl), hnd.idxOf_getElem]
      omega
  · rcases alL_inv hj with h | h
    · exact alL_n (h1 j j38 h)
    · exact up (hW.2.2.1 j j38 h)
  · rcases alL_inv h with h | h
    · exact alL_n (h2 h k hk)
    · exact up (hW.2.2.2.1 h k hk)
  · rcases alL_inv h with h | h
    · exact alL_n (h3 h k hk)
    · exact up (hW.2.2.2.2.1 h k hk)
  · by_cases h : k ∈ K
    · exact alL_n h
    · rw [plL_o h] at hk
      exact up (hW.2.2.2.2.2.1 k hk)
  · rw [plL_o (fun h => (hno 0 h).2 rfl)]
    exact hW.2.2.2.2.2.2
end GRW
def KA : List Nat := [200, 201, 202, 64, 65, 66, 67]
def KY : List Nat := [203, 204, 205, 206, 207, 208, 209, 210, 68, 69, 70, 71]
def z0 : Int → Int := fun _ => 0
def cd0 : cdt := (0, 0, z0)
def aA (a : Nat → Int → Int) : Nat → Int → Int := updA (updA a 7 z0) 8 z0
def cA (c : Nat → cdt) : Nat → cdt := updC (updC c 2 cd0) 3 cd0
def sA (s : Nat → Int) : Nat → Int := updS s 19 0
def aY (a : Nat → Int → Int) : Nat → Int → Int := fun i => if 9 ≤ i ∧ i ≤ 15 then z0 else a i
def cY (c : Nat → cdt) : Nat → cdt := updC (updC c 4 cd0) 5 cd0
def sY (s : Nat → Int) : Nat → Int := fun i => if 20 ≤ i ∧ i ≤ 22 then 0 else s i
section GRW
variable {n : Nat} {kd pl pl' : Nat → Nat} {s : Nat → Int} {a : Nat → Int → Int} {c : Nat → cdt} {M : List va_E} {k : Nat}
theorem kc_A (e : ∀ i, i ∉ KA → pl' i = pl i) (h0 : k ≠ 0) (hk : k ∉ KA) : kc pl' (sA s) (aA a) (cA c) M k = kc pl s a c M k := by
  have ev : ∀ {i : Nat}, decide (i ∉ KA) = true → pl' i = pl i := fun h => e _ (of_decide_eq_true h)
  unfold kc
  by_cases k18 : k < 18
  · rw [if_pos k18, if_pos k18]
    simp only [cf1, cf6, cf9, cf13, cf15, ev (i := 1) rfl, ev (i := 6) rfl, ev (i := 2) rfl, ev (i := 7) rfl, ev (i := 8) rfl, ev (i := 10) rfl, ev (i := 11) rfl, ev (i := 12) rfl, ev (i := 14) rfl, ev (i := 62) rfl]
    have ec : cft pl' = cft pl := by
      funext i
      unfold cft
      by_cases h9 : i < 32
      · rw [if_pos h9, if_pos h9, e]
        intro h
        simp only [KA, List.mem_cons, List.not_mem_nil, or_false] at h
        omega
      · rw [if_neg h9, if_neg h9]
    rw [ec]
    split <;> first | rfl | (exfalso; exact h0 rfl)
  · rw [if_neg k18, if_neg k18]
    by_cases k50 : k < 50
    · rw [if_pos k50, if_pos k50]
    · rw [if_neg k50, if_neg k50]
      by_cases k60 : k < 60
      · rw [if_pos k60, if_pos k60]
      · rw [if_neg k60, if_neg k60]
        simp only [KA, List.mem_cons, List.not_mem_nil, or_false] at hk
        by_cases k200 : k < 200
        · rw [if_pos k200, if_pos k200]
          have e2 : (k - 60) / 2 ≠ 2 := by omega
          have e3 : (k - 60) / 2 ≠ 3 := by omega
          unfold cfc cA
          rw [updC_n e3, updC_n e2, e (61 + 2 * ((k - 60) / 2)) (by simp only [KA, List.mem_cons, List.not_mem_nil, or_false]; omega)]
        · rw [if_neg k200, if_neg k200]
          simp only [cf203, ev (i := 6) rfl, ev (i := 204) rfl, ev (i := 205) rfl, ev (i := 206) rfl, ev (i := 207) rfl, ev (i := 208) rfl, ev (i := 209) rfl, ev (i := 210) rfl, ev (i := 68) rfl, ev (i := 70) rfl]
          split <;> first | rfl | (exfalso; omega)
theorem kc_Y (e : ∀ i, i ∉ KY → pl' i = pl i) (h0 : k ≠ 0) (hk : k ∉ KY) : kc pl' (sY s) (aY a) (cY c) M k = kc pl s a c M k := by
  have ev : ∀ {i : Nat}, decide (i ∉ KY) = true → pl' i = pl i := fun h => e _ (of_decide_eq_true h)
  unfold kc
  by_cases k18 : k < 18
  · rw [if_pos k18, if_pos k18]
    simp only [cf1, cf6, cf9, cf13, cf15, ev (i := 1) rfl, ev (i := 6) rfl, ev (i := 2) rfl, ev (i := 7) rfl, ev (i := 8) rfl, ev (i := 10) rfl, ev (i := 11) rfl, ev (i := 12) rfl, ev (i := 14) rfl, ev (i := 62) rfl]
    have ec : cft pl' = cft pl := by
      funext i
      unfold cft
      by_cases h9 : i < 32
      · rw [if_pos h9, if_pos h9, e]
        intro h
        simp only [KY, List.mem_cons, List.not_mem_nil, or_false] at h
        omega
      · rw [if_neg h9, if_neg h9]
    rw [ec]
    split <;> first | rfl | (exfalso; exact h0 rfl)
  · rw [if_neg k18, if_neg k18]
    by_cases k50 : k < 50
    · rw [if_pos k50, if_pos k50]
    · rw [if_neg k50, if_neg k50]
      by_cases k60 : k < 60
      · rw [if_pos k60, if_pos k60]
      · rw [if_neg k60, if_neg k60]
        simp only [KY, List.mem_cons, List.not_mem_nil, or_false] at hk
        by_cases k200 : k < 200
        · rw [if_pos k200, if_pos k200]
          have e2 : (k - 60) / 2 ≠ 4 := by omega
          have e3 : (k - 60) / 2 ≠ 5 := by omega
          unfold cfc cY
          rw [updC_n e3, updC_n e2, e (61 + 2 * ((k - 60) / 2)) (by simp only [KY, List.mem_cons, List.not_mem_nil, or_false]; omega)]
        · rw [if_neg k200, if_neg k200]
          simp only [cf200, ev (i := 6) rfl, ev (i := 201) rfl, ev (i := 202) rfl, ev (i := 64) rfl, ev (i := 66) rfl]
          split <;> first | rfl | (exfalso; omega)
/-- the cells behind, and the shelf's own cell, by the kinds that are new -/
theorem ch_grow {K : List Nat} {s' : Nat → Int} {a' : Nat → Int → Int} {c' : Nat → cdt} (hW : wf n kd pl) (hno : ∀ k ∈ K, pl k = 0 ∧ k ≠ 0) (hc : ∀ k, k ≠ 0 → k ∉ K → kc (plL pl n K) s' a' c' M k = kc pl s a c M k) : (ch n kd pl s a c M ++ K.map (kc (plL pl n K) s' a' c' M)).set (pl 0) (kc (plL pl n K) s' a' c' M 0) = ch (n + K.length) (kdL kd n K) (plL pl n K) s' a' c' M := by
  have hl : (ch n kd pl s a c M).length = n := by unfold ch; rw [List.length_map, List.length_range]
  have p0 := (hW.2.1 0 (by decide))
  have pz := hW.2.2.2.2.2.2
  rw [pz]
  refine List.ext_getElem? (fun q => ?_)
  have hr : (ch (n + K.length) (kdL kd n K) (plL pl n K) s' a' c' M)[q]? = if q < n + K.length then some (kc (plL pl n K) s' a' c' M (kdL kd n K q)) else none := by
    unfold ch
    by_cases hq : q < n + K.length
    · rw [if_pos hq, List.getElem?_map, List.getElem?_range hq, Option.map_some]
    · rw [if_neg hq, List.getElem?_eq_none (by rw [List.length_map, List.length_range]; omega)]
  have hn : 0 < n := by have h9 := p0.1; rw [pz] at h9; exact h9
  have hk0 : kd 0 = 0 := by have h9 := p0.2; rw [pz] at h9; exact h9
  rw [hr, List.getElem?_set, List.length_append, hl, List.length_map]
  by_cases hq : 0 = q
  · subst hq
    rw [if_pos rfl, if_pos (by omega), if_pos (by omega), kdL_o hn, hk0]
  · rw [if_neg hq]
    by_cases q0 : q < n
    · rw [if_pos (by omega), List.getElem?_append_left (by omega), kdL_o q0, hc]
      · unfold ch
        rw [List.getElem?_map, List.getElem?_range q0, Option.map_some]
      · intro h; have h9 := hW.1 q q0; rw [h, pz] at h9; exact hq h9
      · intro h
        obtain ⟨h4, h5⟩ := hno _ h
        have h9 := hW.1 q q0
        rw [h4] at h9
        exact hq h9
    · rw [List.getElem?_append_right (by omega), hl, kdL_n q0, List.getElem?_map]
      by_cases q1 : q < n + K.length
      · have hlt : q - n < K.length := by omega
        rw [if_pos q1, List.getElem?_eq_getElem hlt, Option.map_some, List.getD_eq_getElem?_getD, List.getElem?_eq_getElem hlt, Option.getD_some]
      · rw [if_neg q1, List.getElem?_eq_none (by omega)]
        rfl
end GRW
