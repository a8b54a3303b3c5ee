/-! THE CLASS: letter, abstracted, typed whole -/
set_option maxHeartbeats 4000000 in
set_option maxRecDepth 100000 in
theorem C_letter {d n : Nat} {kd pl : Nat → Nat} {s : Nat → Int} {a : Nat → Int → Int} {c : Nat → cdt} {M : List va_E} {Q : Option Value → List va_E → Nat → Nat → Prop} {N : Int} {T : Int → List Int} {t i : Int} (hW : wf n kd pl) (hS : cS n kd pl s c N T) (hT : ∀ t, 0 ≤ t → t < N → (T t).length ≤ 500 ∧ ∃ f, tL f 0 (T t)) (ht : in32 t) (hi : in32 i) (ho : teO s) (kb : (t < 0 ∨ N ≤ t) → Q (some (.int (iI (-1)))) (ch n kd pl s a c M) 0 0) (k : ∀ s' a' r, teF s a s' a' → Q (some (.int (iI r))) (ch n kd pl s' a' c M) 0 0) : pm_E none (d + 7) pm_mm48 0 [(0, .ref (pl 0)), (1, .int (iI t)), (2, .int (iI i))] [] (ch n kd pl s a c M) 0 0 Q := by
  obtain ⟨hS1, hS2, hS3, hS4⟩ := id hS
  obtain ⟨_, _⟩ := id ht
  obtain ⟨_, _⟩ := id hi
  refine pm_e_sim pm_a48_0 rfl ?_
  show pm_E _ _ _ 1 [(0, .ref (pl 0)), (1, .int (iI t)), (2, .int (iI i))] [.ref (pl 0)] _ _ _ _
  refine pm_e_sim pm_a48_1 rfl ?_
  show pm_E _ _ _ 2 [(0, .ref (pl 0)), (1, .int (iI t)), (2, .int (iI i))] [.int (iI t), .ref (pl 0)] _ _ _ _
  refine pm_i_callv (k := (pl 0)) (T2 := pm_mm45) pm_a48_2 rfl rfl rfl (cg_0 hW) ⟨Nat.le_of_ble_eq_true rfl, Nat.le_of_ble_eq_true rfl, rfl, by decide +kernel⟩ ?_
  show pm_E none _ _ 0 [(0, .ref (pl 0)), (1, .int (iI t))] [] _ _ _ _
  refine C_termAt hW hS ⟨by omega, by omega⟩ (fun t0j t1j j ej hj lj => ?_) (fun t9j => ?_)
  · skip
    have rbj := rm_b j
    have rmj : rm j = 500 := if_neg (by omega)
    obtain ⟨hlj, _⟩ := hT t (by omega) (by omega)
    obtain ⟨ovj, zj, gj⟩ : (c j).2.1 = 0 ∧ (c j).1 = (T t).length ∧ rg (c j).2.2 (T t).length 0 = T t := by rcases lj.2 with ⟨_, h1, h2, h3⟩ | ⟨h, _⟩; exact ⟨h1, h2, h3⟩; omega
    show pm_E _ _ _ 5 [(0, .ref (pl 0)), (1, .int (iI t)), (2, .int (iI i))] [.ref (pl (60 + 2 * j))] _ _ _ _
    refine pm_e_sim pm_a48_5 rfl ?_
    show pm_E _ _ _ 6 [(0, .ref (pl 0)), (1, .int (iI t)), (2, .int (iI i)), (3, .ref (pl (60 + 2 * j)))] [] _ _ _ _
    refine pm_e_sim pm_a48_6 rfl ?_
    show pm_E _ _ _ 7 [(0, .ref (pl 0)), (1, .int (iI t)), (2, .int (iI i)), (3, .ref (pl (60 + 2 * j)))] [.ref (pl (60 + 2 * j))] _ _ _ _
    refine pm_e_jmp pm_a48_7 rfl rfl ?_
    show pm_E _ _ _ 14 [(0, .ref (pl 0)), (1, .int (iI t)), (2, .int (iI i)), (3, .ref (pl (60 + 2 * j)))] [] _ _ _ _
    refine pm_e_sim pm_a48_14 rfl ?_
    show pm_E _ _ _ 15 [(0, .ref (pl 0)), (1, .int (iI t)), (2, .int (iI i)), (3, .ref (pl (60 + 2 * j)))] [.ref (pl 0)] _ _ _ _
    refine pm_i_get pm_a48_15 rfl (cg_0 hW) rfl ?_
    show pm_E _ _ _ 18 [(0, .ref (pl 0)), (1, .int (iI t)), (2, .int (iI i)), (3, .ref (pl (60 + 2 * j)))] [.ref (pl 13)] _ _ _ _
    refine pm_e_sim pm_a48_18 rfl ?_
    show pm_E _ _ _ 19 [(0, .ref (pl 0)), (1, .int (iI t)), (2, .int (iI i)), (3, .ref (pl (60 + 2 * j)))] [.ref (pl (60 + 2 * j)), .ref (pl 13)] _ _ _ _
    refine pm_e_sim pm_a48_19 rfl ?_
    show pm_E _ _ _ 20 [(0, .ref (pl 0)), (1, .int (iI t)), (2, .int (iI i)), (3, .ref (pl (60 + 2 * j)))] [.int (iI i), .ref (pl (60 + 2 * j)), .ref (pl 13)] _ _ _ _
    refine pm_i_callv (k := (pl 13)) (T2 := pm_mm49) pm_a48_20 rfl rfl rfl (cg_13 hW) ⟨Nat.le_of_ble_eq_true rfl, Nat.le_of_ble_eq_true rfl, rfl, by decide +kernel⟩ ?_
    show pm_E none _ _ 0 [(0, .ref (pl 13)), (1, .ref (pl (60 + 2 * j))), (2, .int (iI i))] [] _ _ _ _
    refine C_e_byteOf hW hj rfl lj.1 ⟨by omega, by omega⟩ ho (fun s1 a1 r f1 => ?_)
    show pm_E _ _ _ 23 [(0, .ref (pl 0)), (1, .int (iI t)), (2, .int (iI i)), (3, .ref (pl (60 + 2 * j)))] [.int (iI r)] _ _ _ _
    refine pm_e_ret pm_a48_23 rfl rfl rfl rfl rfl rfl rfl rfl ?_
    exact k _ _ _ f1
  · skip
    show pm_E _ _ _ 5 [(0, .ref (pl 0)), (1, .int (iI t)), (2, .int (iI i))] [.null] _ _ _ _
    refine pm_e_sim pm_a48_5 rfl ?_
    show pm_E _ _ _ 6 [(0, .ref (pl 0)), (1, .int (iI t)), (2, .int (iI i)), (3, .null)] [] _ _ _ _
    refine pm_e_sim pm_a48_6 rfl ?_
    show pm_E _ _ _ 7 [(0, .ref (pl 0)), (1, .int (iI t)), (2, .int (iI i)), (3, .null)] [.null] _ _ _ _
    refine pm_e_jmp pm_a48_7 rfl rfl ?_
    show pm_E _ _ _ 10 [(0, .ref (pl 0)), (1, .int (iI t)), (2, .int (iI i)), (3, .null)] [] _ _ _ _
    refine pm_e_sim pm_a48_10 rfl ?_
    refine pm_e_top (y := iI (-1)) (by decide +kernel) ?_
    show pm_E _ _ _ 11 [(0, .ref (pl 0)), (1, .int (iI t)), (2, .int (iI i)), (3, .null)] [.int (iI (-1))] _ _ _ _
    refine pm_e_goto pm_a48_11 rfl ?_
    show pm_E _ _ _ 23 [(0, .ref (pl 0)), (1, .int (iI t)), (2, .int (iI i)), (3, .null)] [.int (iI (-1))] _ _ _ _
    refine pm_e_ret pm_a48_23 rfl rfl rfl rfl rfl rfl rfl rfl ?_
    exact kb (by omega)
theorem okx0 {j : Nat} : okx (rm j) cd0 := ⟨Int.le_refl 0, by show (0 : Int) ≤ _; omega, Or.inl rfl, fun _ => by show in32 0; decide⟩
def abF (s : Nat → Int) (a : Nat → Int → Int) (c : Nat → cdt) (s' : Nat → Int) (a' : Nat → Int → Int) (c' : Nat → cdt) : Prop := (∀ i, i ≠ 19 → s' i = s i) ∧ (∀ i, i ≠ 1 → i ≠ 2 → i ≠ 7 → i ≠ 8 → a' i = a i) ∧ (∀ i, i ≠ 2 → i ≠ 3 → c' i = c i) ∧ okx (rm 2) (c' 2) ∧ okx (rm 3) (c' 3)
theorem frA_ab {s s' : Nat → Int} {a a' : Nat → Int → Int} {c c' : Nat → cdt} (h : frA s a c s' a' c') : abF s a c s' a' c' := ⟨h.1, h.2.1, h.2.2.2.2.1, h.2.2.2.2.2⟩
theorem frA_ab0 {s s' : Nat → Int} {a a' : Nat → Int → Int} {c c' : Nat → cdt} (h : frA (sA s) (aA a) (cA c) s' a' c') : abF s a c s' a' c' := by
  refine ⟨fun i hi => (h.1 i hi).trans (updS_o hi), fun i h1 h2 h7 h8 => (h.2.1 i h1 h2 h7 h8).trans ?_, fun i h2 h3 => (h.2.2.2.2.1 i h2 h3).trans ?_, h.2.2.2.2.2⟩
  · unfold aA updA; rw [if_neg h8, if_neg h7]
  · unfold cA; rw [updC_n h3, updC_n h2]
theorem noA {n : Nat} {kd pl : Nat → Nat} (hW : wf n kd pl) (h : pl 200 = 0) (h6 : pl 64 = 0 ∧ pl 65 = 0 ∧ pl 66 = 0 ∧ pl 67 = 0 ∧ pl 201 = 0 ∧ pl 202 = 0) : ∀ k ∈ KA, pl k = 0 ∧ k ≠ 0 := by
  intro k hk
  simp only [KA, List.mem_cons, List.not_mem_nil, or_false] at hk
  rcases hk with e | e | e | e | e | e | e <;> subst e
  · exact ⟨h, by decide⟩
  · exact ⟨h6.2.2.2.2.1, by decide⟩
  · exact ⟨h6.2.2.2.2.2, by decide⟩
  · exact ⟨h6.1, by decide⟩
  · exact ⟨h6.2.1, by decide⟩
  · exact ⟨h6.2.2.1, by decide⟩
  · exact ⟨h6.2.2.2.1, by decide⟩
theorem grwA {n : Nat} {kd pl : Nat → Nat} (hW : wf n kd pl) (hno : ∀ k ∈ KA, pl k = 0 ∧ k ≠ 0) : grw n kd pl (n + 7) (kdL kd n KA) (plL pl n KA) := by
  refine grwL (K := KA) hW (by decide) hno (fun j j38 hj => ?_) (fun _ => by decide) (fun h => absurd h (by decide))
  simp only [KA, List.mem_cons, List.not_mem_nil, or_false] at hj ⊢
  omega
theorem grwY {n : Nat} {kd pl : Nat → Nat} (hW : wf n kd pl) (hno : ∀ k ∈ KY, pl k = 0 ∧ k ≠ 0) : grw n kd pl (n + 12) (kdL kd n KY) (plL pl n KY) := by
  refine grwL (K := KY) hW (by decide) hno (fun j j38 hj => ?_) (fun h => absurd h (by decide)) (fun _ => by decide)
  simp only [KY, List.mem_cons, List.not_mem_nil, or_false] at hj ⊢
  omega
theorem grw_t {n n1 n2 : Nat} {kd pl kd1 pl1 kd2 pl2 : Nat → Nat} (h : grw n kd pl n1 kd1 pl1) (h' : grw n1 kd1 pl1 n2 kd2 pl2) : grw n kd pl n2 kd2 pl2 := ⟨h'.1, Nat.le_trans h.2.1 h'.2.1, fun k hk => by
  obtain ⟨a1, a2⟩ := h.2.2 k hk
  obtain ⟨b1, b2⟩ := h'.2.2 k a1
  exact ⟨b1, b2.trans a2⟩⟩
theorem ch_len {n : Nat} {kd pl : Nat → Nat} {s : Nat → Int} {a : Nat → Int → Int} {c : Nat → cdt} {M : List va_E} : (ch n kd pl s a c M).length = n := by unfold ch; rw [List.length_map, List.length_range]
set_option maxHeartbeats 4000000 in
set_option maxRecDepth 100000 in
theorem C_abstracted {d n : Nat} {kd pl : Nat → Nat} {s : Nat → Int} {a : Nat → Int → Int} {c : Nat → cdt} {M : List va_E} {Q : Option Value → List va_E → Nat → Nat → Prop} {N : Int} {T : Int → List Int} {t : Int} (hW : wf n kd pl) (hS : cS n kd pl s c N T) (hT : ∀ t, 0 ≤ t → t < N → (T t).length ≤ 500 ∧ ∃ f, tL f 0 (T t)) (ht : in32 t) (hin : ∀ i q, in32 (a i q)) (hf : s 0 < 32 → (al n kd pl (60 + 2 * (6 + (s 0).toNat)) ∧ okx (rm (6 + (s 0).toNat)) (c (6 + (s 0).toNat))) ∨ (pl (60 + 2 * (6 + (s 0).toNat)) = 0 ∧ pl (61 + 2 * (6 + (s 0).toNat)) = 0)) (hA6 : ∀ n' kd' pl', grx (6 + (s 0).toNat) n kd pl n' kd' pl' → pl' 200 = 0 → pl' 64 = 0 ∧ pl' 65 = 0 ∧ pl' 66 = 0 ∧ pl' 67 = 0 ∧ pl' 201 = 0 ∧ pl' 202 = 0) (hA1 : ∀ n' kd' pl', grx (6 + (s 0).toNat) n kd pl n' kd' pl' → al n' kd' pl' 200 → okx (rm 2) (c 2) ∧ okx (rm 3) (c 3)) (kb : (t < 0 ∨ N ≤ t) → Q (some (.int (iI (-1)))) (ch n kd pl s a c M) 0 0) (kf : 0 ≤ t → t < N → s 0 = 32 → Q (some (.int (iI (-3)))) (ch n kd pl s a c M) 0 0) (k1 : 0 ≤ t → t < N → s 0 < 32 → ∀ n' kd' pl' z nc ns s' a' c' l' m', (grw n kd pl n' kd' pl' ∧ ∀ k, k ∉ KA → k ≠ 60 + 2 * (6 + (s 0).toNat) → k ≠ 61 + 2 * (6 + (s 0).toNat) → pl' k = pl k) → nc ≤ 9 → (ns ≤ 503 ∨ (pl 200 = 0 ∧ ns ≤ 3600)) → al n' kd' pl' (60 + 2 * (6 + (s 0).toNat)) → md z (rm (6 + (s 0).toNat)) l' → l'.length ≤ 500 → abR m' (T t) (some l') → (∃ x, abF s a (updC c (6 + (s 0).toNat) x) s' a' c') → al n' kd' pl' 200 → Q (some (.int (iI (s 0)))) (ch n' kd' pl' (updS s' 0 (s 0 + 1)) a' (updC c' (6 + (s 0).toNat) z) M) nc ns) (k0 : 0 ≤ t → t < N → s 0 < 32 → ∀ n' kd' pl' z nc ns s' a' c' m', (grw n kd pl n' kd' pl' ∧ ∀ k, k ∉ KA → k ≠ 60 + 2 * (6 + (s 0).toNat) → k ≠ 61 + 2 * (6 + (s 0).toNat) → pl' k = pl k) → nc ≤ 9 → (ns ≤ 503 ∨ (pl 200 = 0 ∧ ns ≤ 3600)) → al n' kd' pl' (60 + 2 * (6 + (s 0).toNat)) → okx (rm (6 + (s 0).toNat)) z → abR m' (T t) none → (∃ x, abF s a (updC c (6 + (s 0).toNat) x) s' a' c') → al n' kd' pl' 200 → Q (some (.int (iI (-3)))) (ch n' kd' pl' s' a' (updC c' (6 + (s 0).toNat) z) M) nc ns) : pm_E none (d + 5) pm_mm93 0 [(0, .ref (pl 0)), (1, .int (iI t))] [] (ch n kd pl s a c M) 0 0 Q := by
  obtain ⟨hS1, hS2, hS3, hS4⟩ := id hS
  obtain ⟨_, _⟩ := id ht
  refine pm_e_sim pm_a93_0 rfl ?_
  show pm_E _ _ _ 1 [(0, .ref (pl 0)), (1, .int (iI t))] [.ref (pl 0)] _ _ _ _
  refine pm_e_sim pm_a93_1 rfl ?_
  show pm_E _ _ _ 2 [(0, .ref (pl 0)), (1, .int (iI t))] [.int (iI t), .ref (pl 0)] _ _ _ _
  refine pm_i_callv (k := (pl 0)) (T2 := pm_mm45) pm_a93_2 rfl rfl rfl (cg_0 hW) ⟨Nat.le_of_ble_eq_true rfl, Nat.le_of_ble_eq_true rfl, rfl, by decide +kernel⟩ ?_
  show pm_E none _ _ 0 [(0, .ref (pl 0)), (1, .int (iI t))] [] _ _ _ _
  refine C_termAt hW hS ⟨by omega, by omega⟩ (fun t0j t1j j ej hj lj => ?_) (fun t9j => ?_)
  · skip
    have rbj := rm_b j
    have rmj : rm j = 500 := if_neg (by omega)
    obtain ⟨hlj, _⟩ := hT t (by omega) (by omega)
    obtain ⟨ovj, zj, gj⟩ : (c j).2.1 = 0 ∧ (c j).1 = (T t).length ∧ rg (c j).2.2 (T t).length 0 = T t := by rcases lj.2 with ⟨_, h1, h2, h3⟩ | ⟨h, _⟩; exact ⟨h1, h2, h3⟩; omega
    show pm_E _ _ _ 5 [(0, .ref (pl 0)), (1, .int (iI t))] [.ref (pl (60 + 2 * j))] _ _ _ _
    refine pm_e_sim pm_a93_5 rfl ?_
    show pm_E _ _ _ 6 [(0, .ref (pl 0)), (1, .int (iI t)), (2, .ref (pl (60 + 2 * j)))] [] _ _ _ _
    refine pm_e_sim pm_a93_6 rfl ?_
    show pm_E _ _ _ 7 [(0, .ref (pl 0)), (1, .int (iI t)), (2, .ref (pl (60 + 2 * j)))] [.ref (pl (60 + 2 * j))] _ _ _ _
    refine pm_e_jmp pm_a93_7 rfl rfl ?_
    show pm_E _ _ _ 12 [(0, .ref (pl 0)), (1, .int (iI t)), (2, .ref (pl (60 + 2 * j)))] [] _ _ _ _
    refine pm_e_sim pm_a93_12 rfl ?_
    show pm_E _ _ _ 13 [(0, .ref (pl 0)), (1, .int (iI t)), (2, .ref (pl (60 + 2 * j)))] [.ref (pl 0)] _ _ _ _
    refine pm_i_callv (k := pl 0) (T2 := pm_mm12) pm_a93_13 rfl rfl rfl (cg_0 hW) ⟨Nat.le_of_ble_eq_true rfl, Nat.le_of_ble_eq_true rfl, rfl, by decide +kernel⟩ ?_
    show pm_E none _ _ 0 [(0, .ref (pl 0))] [] _ _ _ _
    refine C_freshTerm hW (by omega) (by omega) hf (fun h32 => ?_) (fun hlt n2 kd2 pl2 x nc2 ns2 hg hnc hns hal hx => ?_)
    · skip
      show pm_E _ _ _ 16 [(0, .ref (pl 0)), (1, .int (iI t)), (2, .ref (pl (60 + 2 * j)))] [.null] _ _ _ _
      refine pm_e_sim pm_a93_16 rfl ?_
      show pm_E _ _ _ 17 [(0, .ref (pl 0)), (1, .int (iI t)), (2, .ref (pl (60 + 2 * j))), (3, .null)] [] _ _ _ _
      refine pm_e_sim pm_a93_17 rfl ?_
      show pm_E _ _ _ 18 [(0, .ref (pl 0)), (1, .int (iI t)), (2, .ref (pl (60 + 2 * j))), (3, .null)] [.null] _ _ _ _
      refine pm_e_jmp pm_a93_18 rfl rfl ?_
      show pm_E _ _ _ 21 [(0, .ref (pl 0)), (1, .int (iI t)), (2, .ref (pl (60 + 2 * j))), (3, .null)] [] _ _ _ _
      refine pm_e_sim pm_a93_21 rfl ?_
      refine pm_e_top (y := iI (-3)) (by decide +kernel) ?_
      show pm_E _ _ _ 23 [(0, .ref (pl 0)), (1, .int (iI t)), (2, .ref (pl (60 + 2 * j))), (3, .null)] [.int (iI (-3))] _ _ _ _
      refine pm_e_ret pm_a93_23 rfl rfl rfl rfl rfl rfl rfl rfl ?_
      exact kf (by omega) (by omega) h32
    · obtain ⟨hg, hgx⟩ := hg
      have e0 := hg.2.2 0 (hW.2.1 0 (by decide))
      have e1 := hg.2.2 _ hj.2
      have hW2 := hg.1
      obtain ⟨_, ft, htl⟩ := hT t (by omega) (by omega)
      have hne : j ≠ 6 + (s 0).toNat := by omega
      show pm_E _ _ _ 16 [(0, .ref (pl 0)), (1, .int (iI t)), (2, .ref (pl (60 + 2 * j)))] [.ref (pl2 (60 + 2 * (6 + (s 0).toNat)))] _ _ _ _
      rw [← e0.2, ← e1.2]
      refine pm_e_sim pm_a93_16 rfl ?_
      refine pm_e_sim pm_a93_17 rfl ?_
      refine pm_e_jmp pm_a93_18 rfl rfl ?_
      show pm_E _ _ _ 24 [(0, .ref (pl2 0)), (1, .int (iI t)), (2, .ref (pl2 (60 + 2 * j))), (3, .ref (pl2 (60 + 2 * (6 + (s 0).toNat))))] [] _ _ _ _
      refine pm_e_sim pm_a93_24 rfl ?_
      refine pm_i_get pm_a93_25 rfl (cg_0 hW2) rfl ?_
      show pm_E _ _ _ 28 [(0, .ref (pl2 0)), (1, .int (iI t)), (2, .ref (pl2 (60 + 2 * j))), (3, .ref (pl2 (60 + 2 * (6 + (s 0).toNat))))] [vo (pl2 200)] _ _ _ _
      by_cases h200 : pl2 200 = 0
      · rw [vo_no h200]
        refine pm_e_jmp (pc2 := 31) pm_a93_28 rfl rfl ?_
        refine pm_e_sim pm_a93_31 rfl ?_
        have h20 : pl 200 = 0 := Classical.byContradiction (fun z => al_pos hW2 (hg.2.2 200 (hW.2.2.2.2.2.1 200 z)).1 (by decide) h200)
        have hno := noA hW2 h200 (hA6 n2 kd2 pl2 ⟨hg, hgx⟩ h200)
        have hgA := grwA hW2 hno
        have n0 : n2 ≠ 0 := by have := (hW2.2.1 0 (by decide)).1; omega
        have p0 := (hW2.2.1 0 (by decide)).1
        refine pm_e_nw (e2 := .inr (0, [.null, .null, .null, .null, .null, .int 0])) (n2 := 6) (k2 := n2) (ph1 := _) pm_a93_32 rfl rfl rfl rfl rfl rfl ch_len ?_
        show pm_E _ _ _ 35 _ [.ref n2, .ref (pl2 0)] _ _ _ _
        refine pm_e_sim pm_a93_35 rfl ?_
        refine pm_e_sim pm_a93_36 rfl ?_
        show pm_E _ _ _ 37 _ [.ref (pl2 0), .ref n2, .ref n2, .ref (pl2 0)] _ _ _ _
        refine pm_i_get pm_a93_37 rfl (by rw [List.getElem?_append_left (by rw [ch_len]; exact p0)]; exact cg_0 hW2) rfl ?_
        show pm_E _ _ _ 40 _ [.ref (pl2 6), .ref n2, .ref n2, .ref (pl2 0)] _ _ _ _
        refine pm_e_call (T2 := pm_mm94) pm_a93_40 rfl rfl rfl rfl rfl rfl rfl rfl rfl ?_
        show pm_E none _ _ 0 [(0, .ref n2), (1, .ref (pl2 6))] [] _ _ _ _
        refine C_initA ch_len ?_
        show pm_E _ _ _ 43 _ [.ref n2, .ref (pl2 0)] _ _ _ _
        refine pm_i_put (ph1 := ch (n2 + 7) (kdL kd2 n2 KA) (plL pl2 n2 KA) (sA s) (aA a) (cA (updC c (6 + (s 0).toNat) x)) M) pm_a93_43 rfl (by rw [List.getElem?_append_left (by rw [ch_len]; exact p0)]; exact cg_0 hW2) rfl (Nat.le_of_ble_eq_true rfl) (Or.inl rfl) ?_ ?_
        · rw [← cf_A (kd := kd2) (a := a) (c := updC c (6 + (s 0).toNat) x) (M := M) n0, ← cells_A (pl := pl2) (s := s) (a := a) (c := updC c (6 + (s 0).toNat) x) (M := M)]
          exact ch_grow (K := KA) hW2 hno (fun k h0 hk => kc_A (fun i hi => plL_o hi) h0 hk)
        · have f0 := hgA.2.2 0 e0.1
          have f1 := hgA.2.2 _ e1.1
          have f2 := hgA.2.2 _ hal
          show pm_E _ _ _ 46 [(0, .ref (pl2 0)), (1, .int (iI t)), (2, .ref (pl2 (60 + 2 * j))), (3, .ref (pl2 (60 + 2 * (6 + (s 0).toNat))))] [] _ _ _ _
          rw [← f0.2, ← f1.2, ← f2.2]
          have i2 : j ≠ 2 := by omega
          have i3 : j ≠ 3 := by omega
          have c2 : cA (updC c (6 + (s 0).toNat) x) 2 = cd0 := by unfold cA; rw [updC_n (by decide), updC_at]
          have c3 : cA (updC c (6 + (s 0).toNat) x) 3 = cd0 := by unfold cA; rw [updC_at]
          have cj : cA (updC c (6 + (s 0).toNat) x) j = c j := by unfold cA; rw [updC_n i3, updC_n i2, updC_n hne]
          have cm : cA (updC c (6 + (s 0).toNat) x) (6 + (s 0).toNat) = x := by unfold cA; rw [updC_n (by omega), updC_n (by omega), updC_at]
          refine C_abs_t hgA.1 (alL_n (K := KA) (by decide)) ⟨hj.1, f1.1⟩ ⟨by omega, f2.1⟩ i2 i3 (by omega) (by omega) (fun q => ?_) (fun q => ?_) (by rw [c2]; exact okx0) (by rw [c3]; exact okx0) (by rw [cj]; exact lj) hlj htl (by rw [cm]; exact hx) (fun s' a' c' z l' m' x1 x2 x3 x4 => ?_) (fun s' a' c' z m' x1 x2 x3 => ?_)
          · show in32 (a 1 q); exact hin 1 q
          · show in32 (0 : Int); decide
          · have x5 := frA_ab0 x1
            have e9 : s' 0 = s 0 := x5.1 0 (by decide)
            rw [e9]
            exact k1 (by omega) (by omega) hlt _ _ _ z _ _ s' a' c' l' m' ⟨grw_t hg hgA, fun k h1 h2 h3 => (plL_o h1).trans (hgx k h2 h3)⟩ (by omega) (Or.inr ⟨h20, by omega⟩) f2.1 x2 x3 x4 ⟨x, x5⟩ (alL_n (K := KA) (by decide))
          · exact k0 (by omega) (by omega) hlt _ _ _ z _ _ s' a' c' m' ⟨grw_t hg hgA, fun k h1 h2 h3 => (plL_o h1).trans (hgx k h2 h3)⟩ (by omega) (Or.inr ⟨h20, by omega⟩) f2.1 x2 x3 ⟨x, frA_ab0 x1⟩ (alL_n (K := KA) (by decide))
      · have h2 := hW2.2.2.2.2.2.1 200 h200
        rw [vo_al hW2 h2 (by decide)]
        refine pm_e_jmp (pc2 := 46) pm_a93_28 rfl rfl ?_
        have i2 : j ≠ 2 := by omega
        have i3 : j ≠ 3 := by omega
        obtain ⟨o2, o3⟩ := hA1 n2 kd2 pl2 ⟨hg, hgx⟩ h2
        refine C_abs_t hW2 h2 ⟨hj.1, e1.1⟩ ⟨by omega, hal⟩ i2 i3 (by omega) (by omega) (hin 1) (hin 7) (by rw [updC_n (by omega)]; exact o2) (by rw [updC_n (by omega)]; exact o3) (by rw [updC_n hne]; exact lj) hlj htl (by rw [updC_at]; exact hx) (fun s' a' c' z l' m' x1 x2 x3 x4 => ?_) (fun s' a' c' z m' x1 x2 x3 => ?_)
        · have x5 := frA_ab x1
          have e9 : s' 0 = s 0 := x5.1 0 (by decide)
          rw [e9]
          exact k1 (by omega) (by omega) hlt _ _ _ z _ _ s' a' c' l' m' ⟨hg, fun k _ h2 h3 => hgx k h2 h3⟩ (by omega) (Or.inl (by omega)) hal x2 x3 x4 ⟨x, x5⟩ h2
        · exact k0 (by omega) (by omega) hlt _ _ _ z _ _ s' a' c' m' ⟨hg, fun k _ h2 h3 => hgx k h2 h3⟩ (by omega) (Or.inl (by omega)) hal x2 x3 ⟨x, frA_ab x1⟩ h2
  · skip
    show pm_E _ _ _ 5 [(0, .ref (pl 0)), (1, .int (iI t))] [.null] _ _ _ _
    refine pm_e_sim pm_a93_5 rfl ?_
    show pm_E _ _ _ 6 [(0, .ref (pl 0)), (1, .int (iI t)), (2, .null)] [] _ _ _ _
    refine pm_e_sim pm_a93_6 rfl ?_
    show pm_E _ _ _ 7 [(0, .ref (pl 0)), (1, .int (iI t)), (2, .null)] [.null] _ _ _ _
    refine pm_e_jmp pm_a93_7 rfl rfl ?_
    show pm_E _ _ _ 10 [(0, .ref (pl 0)), (1, .int (iI t)), (2, .null)] [] _ _ _ _
    refine pm_e_sim pm_a93_10 rfl ?_
    refine pm_e_top (y := iI (-1)) (by decide +kernel) ?_
    show pm_E _ _ _ 11 [(0, .ref (pl 0)), (1, .int (iI t)), (2, .null)] [.int (iI (-1))] _ _ _ _
    refine pm_e_ret pm_a93_11 rfl rfl rfl rfl rfl rfl rfl rfl ?_
    exact kb (by omega)
set_option maxHeartbeats 4000000 in
set_option maxRecDepth 100000 in
theorem C_typ_t {d n : Nat} {kd pl : Nat → Nat} {s : Nat → Int} {a : Nat → Int → Int} {c : Nat → cdt} {M : List va_E} {Q : Option Value → List va_E → Nat → Nat → Prop} {nc ns : Nat} {j : Nat} {t : Int} {ft : Nat} {k0 : Int} (hW : wf n kd pl) (h203 : al n kd pl 203) (hj : j < 38 ∧ al n kd pl (60 + 2 * j)) (hj4 : j ≠ 4) (hj5 : j ≠ 5) (hok : okx (rm j) (c j)) (hin : ∀ q, in32 (a 1 q)) (htm : tm (c j).2.2 ft k0 0 (c j).1) (ho : tyO s c) (k : ∀ a1 s' a' c' r, shM a a1 → tyF s a1 c s' a' c' → Q (some (.int (iI r))) (ch n kd pl s' a' c' M) nc ns) : pm_E none (d + 6) pm_mm109 34 [(0, .ref (pl 0)), (1, .int (iI t)), (2, .ref (pl (60 + 2 * j)))] [] (ch n kd pl s a c M) nc ns Q := by
  refine pm_e_sim pm_a109_34 rfl ?_
  show pm_E _ _ _ 35 [(0, .ref (pl 0)), (1, .int (iI t)), (2, .ref (pl (60 + 2 * j)))] [.ref (pl 0)] _ _ _ _
  refine pm_i_get pm_a109_35 rfl (cg_0 hW) rfl ?_
  show pm_E _ _ _ _ _ (vo (pl 203) :: _) _ _ _ _
  rw [vo_al hW h203 (by decide)]
  show pm_E _ _ _ 38 [(0, .ref (pl 0)), (1, .int (iI t)), (2, .ref (pl (60 + 2 * j)))] [.ref (pl 203)] _ _ _ _
  refine pm_e_sim pm_a109_38 rfl ?_
  show pm_E _ _ _ 39 [(0, .ref (pl 0)), (1, .int (iI t)), (2, .ref (pl (60 + 2 * j)))] [.ref (pl (60 + 2 * j)), .ref (pl 203)] _ _ _ _
  refine pm_i_callv (k := (pl 203)) (T2 := pm_mm111) pm_a109_39 rfl rfl rfl (cg_203 hW h203) ⟨Nat.le_of_ble_eq_true rfl, Nat.le_of_ble_eq_true rfl, rfl, by decide +kernel⟩ ?_
  show pm_E none _ _ 0 [(0, .ref (pl 203)), (1, .ref (pl (60 + 2 * j)))] [] _ _ _ _
  refine C_y_lengthOfType hW h203 hj hj4 hj5 hok hin htm ho (fun a1 s2 a2 c2 r z1 z2 z3 => ?_)
  show pm_E _ _ _ 42 [(0, .ref (pl 0)), (1, .int (iI t)), (2, .ref (pl (60 + 2 * j)))] [.int (iI r)] _ _ _ _
  refine pm_e_ret pm_a109_42 rfl rfl rfl rfl rfl rfl rfl rfl ?_
  exact k _ _ _ _ _ z1 z2
def tyG (s : Nat → Int) (a : Nat → Int → Int) (c : Nat → cdt) (s' : Nat → Int) (a' : Nat → Int → Int) (c' : Nat → cdt) : Prop := (∀ i, i < 20 → s' i = s i) ∧ (∀ i, i < 9 → i ≠ 1 → i ≠ 2 → a' i = a i) ∧ (∀ i, i ≠ 4 → i ≠ 5 → c' i = c i) ∧ okx (rm 4) (c' 4) ∧ okx (rm 5) (c' 5)
theorem tyF_G {s s' : Nat → Int} {a a1 a' : Nat → Int → Int} {c c' : Nat → cdt} (h : shM a a1) (h' : tyF s a1 c s' a' c') : tyG s a c s' a' c' := ⟨h'.1, fun i hi h1 h2 => (h'.2.1 i hi).trans (h.1 i h1 h2), h'.2.2.1, h'.2.2.2.1, h'.2.2.2.2.1⟩
theorem tyF_G0 {s s' : Nat → Int} {a a1 a' : Nat → Int → Int} {c c' : Nat → cdt} (h : shM (aY a) a1) (h' : tyF (sY s) a1 (cY c) s' a' c') : tyG s a c s' a' c' := by
  refine ⟨fun i hi => (h'.1 i hi).trans ?_, fun i hi h1 h2 => (h'.2.1 i hi).trans ((h.1 i h1 h2).trans ?_), fun i h4 h5 => (h'.2.2.1 i h4 h5).trans ?_, h'.2.2.2.1, h'.2.2.2.2.1⟩
  · unfold sY; rw [if_neg (by omega)]
  · unfold aY; rw [if_neg (by omega)]
  · unfold cY; rw [updC_n h5, updC_n h4]
set_option maxHeartbeats 4000000 in
set_option maxRecDepth 100000 in
theorem C_typed {d n : Nat} {kd pl : Nat → Nat} {s : Nat → Int} {a : Nat → Int → Int} {c : Nat → cdt} {M : List va_E} {Q : Option Value → List va_E → Nat → Nat → Prop} {N : Int} {T : Int → List Int} {t : Int} (hW : wf n kd pl) (hS : cS n kd pl s c N T) (hT : ∀ t, 0 ≤ t → t < N → (T t).length ≤ 500 ∧ ∃ f, tL f 0 (T t)) (ht : in32 t) (hin : ∀ q, in32 (a 1 q)) (hY6 : pl 203 = 0 → ∀ k ∈ KY, pl k = 0 ∧ k ≠ 0) (ho : al n kd pl 203 → tyO s c) (kb : (t < 0 ∨ N ≤ t) → Q (some (.int (iI (-1)))) (ch n kd pl s a c M) 0 0) (k : ∀ n' kd' pl' nc ns s' a' c' r, (grw n kd pl n' kd' pl' ∧ ∀ k, k ∉ KY → pl' k = pl k) → nc ≤ 12 → (ns = 0 ∨ (pl 203 = 0 ∧ ns ≤ 16020)) → tyG s a c s' a' c' → al n' kd' pl' 203 → Q (some (.int (iI r))) (ch n' kd' pl' s' a' c' M) nc ns) : pm_E none (d + 6) pm_mm109 0 [(0, .ref (pl 0)), (1, .int (iI t))] [] (ch n kd pl s a c M) 0 0 Q := by
  obtain ⟨hS1, hS2, hS3, hS4⟩ := id hS
  obtain ⟨_, _⟩ := id ht
  refine pm_e_sim pm_a109_0 rfl ?_
  show pm_E _ _ _ 1 [(0, .ref (pl 0)), (1, .int (iI t))] [.ref (pl 0)] _ _ _ _
  refine pm_e_sim pm_a109_1 rfl ?_
  show pm_E _ _ _ 2 [(0, .ref (pl 0)), (1, .int (iI t))] [.int (iI t), .ref (pl 0)] _ _ _ _
  refine pm_i_callv (k := (pl 0)) (T2 := pm_mm45) pm_a109_2 rfl rfl rfl (cg_0 hW) ⟨Nat.le_of_ble_eq_true rfl, Nat.le_of_ble_eq_true rfl, rfl, by decide +kernel⟩ ?_
  show pm_E none _ _ 0 [(0, .ref (pl 0)), (1, .int (iI t))] [] _ _ _ _
  refine C_termAt hW hS ⟨by omega, by omega⟩ (fun t0j t1j j ej hj lj => ?_) (fun t9j => ?_)
  · skip
    have rbj := rm_b j
    have rmj : rm j = 500 := if_neg (by omega)
    obtain ⟨hlj, _⟩ := hT t (by omega) (by omega)
    obtain ⟨ovj, zj, gj⟩ : (c j).2.1 = 0 ∧ (c j).1 = (T t).length ∧ rg (c j).2.2 (T t).length 0 = T t := by rcases lj.2 with ⟨_, h1, h2, h3⟩ | ⟨h, _⟩; exact ⟨h1, h2, h3⟩; omega
    show pm_E _ _ _ 5 [(0, .ref (pl 0)), (1, .int (iI t))] [.ref (pl (60 + 2 * j))] _ _ _ _
    refine pm_e_sim pm_a109_5 rfl ?_
    show pm_E _ _ _ 6 [(0, .ref (pl 0)), (1, .int (iI t)), (2, .ref (pl (60 + 2 * j)))] [] _ _ _ _
    refine pm_e_sim pm_a109_6 rfl ?_
    show pm_E _ _ _ 7 [(0, .ref (pl 0)), (1, .int (iI t)), (2, .ref (pl (60 + 2 * j)))] [.ref (pl (60 + 2 * j))] _ _ _ _
    refine pm_e_jmp pm_a109_7 rfl rfl ?_
    show pm_E _ _ _ 12 [(0, .ref (pl 0)), (1, .int (iI t)), (2, .ref (pl (60 + 2 * j)))] [] _ _ _ _
    refine pm_e_sim pm_a109_12 rfl ?_
    show pm_E _ _ _ 13 [(0, .ref (pl 0)), (1, .int (iI t)), (2, .ref (pl (60 + 2 * j)))] [.ref (pl 0)] _ _ _ _
    obtain ⟨_, ft, htl⟩ := hT t (by omega) (by omega)
    have htm := tL_tm0 htl gj
    rw [← zj] at htm
    refine pm_i_get pm_a109_13 rfl (cg_0 hW) rfl ?_
    show pm_E _ _ _ 16 [(0, .ref (pl 0)), (1, .int (iI t)), (2, .ref (pl (60 + 2 * j)))] [vo (pl 203)] _ _ _ _
    by_cases h203 : pl 203 = 0
    · rw [vo_no h203]
      refine pm_e_jmp (pc2 := 19) pm_a109_16 rfl rfl ?_
      refine pm_e_sim pm_a109_19 rfl ?_
      have hno := hY6 h203
      have hgY := grwY hW hno
      have n0 : n ≠ 0 := by have := (hW.2.1 0 (by decide)).1; omega
      have p0 := (hW.2.1 0 (by decide)).1
      refine pm_e_nw (e2 := .inr (7, [.null, .null, .null, .null, .null, .null, .null, .null, .null, .null, .int 0, .int 0, .int 0])) (n2 := 13) (k2 := n) (ph1 := _) pm_a109_20 rfl rfl rfl rfl rfl rfl ch_len ?_
      show pm_E _ _ _ 23 _ [.ref n, .ref (pl 0)] _ _ _ _
      refine pm_e_sim pm_a109_23 rfl ?_
      refine pm_e_sim pm_a109_24 rfl ?_
      show pm_E _ _ _ 25 _ [.ref (pl 0), .ref n, .ref n, .ref (pl 0)] _ _ _ _
      refine pm_i_get pm_a109_25 rfl (by rw [List.getElem?_append_left (by rw [ch_len]; exact p0)]; exact cg_0 hW) rfl ?_
      show pm_E _ _ _ 28 _ [.ref (pl 6), .ref n, .ref n, .ref (pl 0)] _ _ _ _
      refine pm_e_call (T2 := pm_mm110) pm_a109_28 rfl rfl rfl rfl rfl rfl rfl rfl rfl ?_
      show pm_E none _ _ 0 [(0, .ref n), (1, .ref (pl 6))] [] _ _ _ _
      refine C_initY ch_len ?_
      show pm_E _ _ _ 31 _ [.ref n, .ref (pl 0)] _ _ _ _
      refine pm_i_put (ph1 := ch (n + 12) (kdL kd n KY) (plL pl n KY) (sY s) (aY a) (cY c) M) pm_a109_31 rfl (by rw [List.getElem?_append_left (by rw [ch_len]; exact p0)]; exact cg_0 hW) rfl (Nat.le_of_ble_eq_true rfl) (Or.inl rfl) ?_ ?_
      · rw [← cf_Y (kd := kd) (a := a) (c := c) (M := M) n0, ← cells_Y (pl := pl) (s := s) (a := a) (c := c) (M := M)]
        exact ch_grow (K := KY) hW hno (fun k h0 hk => kc_Y (fun i hi => plL_o hi) h0 hk)
      · have f0 := hgY.2.2 0 (hW.2.1 0 (by decide))
        have f1 := hgY.2.2 _ hj.2
        show pm_E _ _ _ 34 [(0, .ref (pl 0)), (1, .int (iI t)), (2, .ref (pl (60 + 2 * j)))] [] _ _ _ _
        rw [← f0.2, ← f1.2]
        have i2 : j ≠ 4 := by omega
        have i3 : j ≠ 5 := by omega
        have c4 : cY c 4 = cd0 := by unfold cY; rw [updC_n (by decide), updC_at]
        have c5 : cY c 5 = cd0 := by unfold cY; rw [updC_at]
        have cj : cY c j = c j := by unfold cY; rw [updC_n i3, updC_n i2]
        refine C_typ_t hgY.1 (alL_n (K := KY) (by decide)) ⟨hj.1, f1.1⟩ i2 i3 (by rw [cj]; exact lj.1) (fun q => by show in32 (a 1 q); exact hin q) (by rw [cj]; exact htm) ⟨by rw [c4]; exact okx0, by rw [c5]; exact okx0, by show in32 0; decide, by show in32 0; decide, by show in32 0; decide⟩ (fun a1 s' a' c' r z1 z2 => ?_)
        exact k _ _ _ _ _ s' a' c' r ⟨hgY, fun k h => plL_o h⟩ (by omega) (Or.inr ⟨h203, by omega⟩) (tyF_G0 z1 z2) (alL_n (K := KY) (by decide))
    · have h2 := hW.2.2.2.2.2.1 203 h203
      rw [vo_al hW h2 (by decide)]
      refine pm_e_jmp (pc2 := 34) pm_a109_16 rfl rfl ?_
      refine C_typ_t hW h2 hj (by omega) (by omega) lj.1 hin htm (ho h2) (fun a1 s' a' c' r z1 z2 => ?_)
      exact k _ _ _ _ _ s' a' c' r ⟨grw_r hW, fun _ _ => rfl⟩ (by omega) (Or.inl rfl) (tyF_G z1 z2) h2
  · skip
    show pm_E _ _ _ 5 [(0, .ref (pl 0)), (1, .int (iI t))] [.null] _ _ _ _
    refine pm_e_sim pm_a109_5 rfl ?_
    show pm_E _ _ _ 6 [(0, .ref (pl 0)), (1, .int (iI t)), (2, .null)] [] _ _ _ _
    refine pm_e_sim pm_a109_6 rfl ?_
    show pm_E _ _ _ 7 [(0, .ref (pl 0)), (1, .int (iI t)), (2, .null)] [.null] _ _ _ _
    refine pm_e_jmp pm_a109_7 rfl rfl ?_
    show pm_E _ _ _ 10 [(0, .ref (pl 0)), (1, .int (iI t)), (2, .null)] [] _ _ _ _
    refine pm_e_sim pm_a109_10 rfl ?_
    refine pm_e_top (y := iI (-1)) (by decide +kernel) ?_
    show pm_E _ _ _ 11 [(0, .ref (pl 0)), (1, .int (iI t)), (2, .null)] [.int (iI (-1))] _ _ _ _
    refine pm_e_ret pm_a109_11 rfl rfl rfl rfl rfl rfl rfl rfl ?_
    exact kb (by omega)
