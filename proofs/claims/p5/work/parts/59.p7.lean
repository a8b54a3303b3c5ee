/-! THE REFERENCE: readTerm, term -/
theorem M_partT2 {d : Nat} {A B : List va_E} {s : Nat → Int} {vl : Int64} {a : Nat → Int → Int} {nm : Nat → Int64} {Q : Option Value → List va_E → Nat → Nat → Prop} {S : PS} {t : Int} (hA : A.length = 18) (hR : RL S (updS s 21 t) a nm) (hw : RW (flat S.1) s a) (h6 : s 6 < 12000) (k : ∀ s' a', (∀ j, j ≠ 6 → s' j = s j) → (∀ j, j ≠ 4 → j ≠ 8 → a' j = a j) → RL (pPart S.1, S.2) (updS s' 21 t) a' nm → RW (flat (pPart S.1)) s' a' → s' 6 ≤ s 6 + 1 → s 6 ≤ s' 6 → Q none (mh A s' vl a' nm B) 0 0) : pm_E none d pm_mm156 0 [(0, .ref 18)] [] (mh A s vl a nm B) 0 0 Q := by
  have hl : 1 ≤ s 18 ∧ s 18 ≤ 41 ∧ 0 ≤ s 20 ∧ s 20 ≤ 40 ∧ 0 ≤ t := RL_len hR
  obtain ⟨g1, g2, g3, g4, g5, g6, g7, g8⟩ := hR
  obtain ⟨w1, w2, w3⟩ := hw
  obtain ⟨L, ns, h0, m⟩ := S
  cases L with
  | nil => exact absurd g7 (fun z => z)
  | cons x r =>
    obtain ⟨q1, q2, q3, q4, q5⟩ := g2
    replace g1 : s 18 = ((r.length + 1 : Nat) : Int) := g1
    have e1 : s 18 - 1 = (r.length : Int) := by omega
    have hfl : ((flat (x :: r)).length : Int) = s 6 := w1.symm
    have hfr : ((flat r).length : Int) ≤ s 6 := by rw [← hfl]; show _ ≤ (((flat r ++ _).length : Nat) : Int); rw [List.length_append]; omega
    have fin : ∀ (s' : Nat → Int) (a' : Nat → Int → Int), (∀ j, j ≠ 6 → s' j = s j) → (∀ j, j ≠ 4 → j ≠ 8 → a' j = a j) → a' 8 = updI (a 8) (s 18 - 1) 1 → RL (pPart (x :: r), ns, h0, m) (updS s' 21 t) a' nm := by
      intro s' a' fS fA e8
      refine ⟨by show s' 18 = _; rw [fS 18 (by omega)]; exact g1, ⟨by rw [fA 7 (by omega) (by omega)]; exact q1, ?_, by rw [fA 9 (by omega) (by omega)]; exact q3, by show 0 ≤ x.2.1 + 1; omega, lvR_eq (fun j z y => ?_) q5⟩, by show s' 20 = _; rw [fS 20 (by omega)]; exact g3, g4, g5, g6, g7, g8⟩
      · show a' 8 (r.length : Int) = if x.2.1 + 1 = 0 then 0 else 1
        rw [e8, e1, updI_s, if_neg (by omega)]
      · rw [fA 7 (by omega) (by omega), fA 9 (by omega) (by omega), e8, updI_n _ _ (by omega)]
        exact ⟨rfl, rfl, rfl⟩
    refine M_part hA (by omega) (by omega) (by rw [e1, q1]; omega) (by rw [e1, q1]; omega) h6 (by rw [e1, q2]; split <;> decide) (fun h => ?_) (fun h => ?_)
    · have hc : x.2.1 = 0 := by
        rw [e1, q2] at h
        by_cases z : x.2.1 = 0
        · exact z
        · rw [if_neg z] at h; omega
      refine k s _ (fun j _ => rfl) (fun j h1 h2 => by simp [updA, h2]) (fin s _ (fun j _ => rfl) (fun j h1 h2 => by simp [updA, h2]) rfl) ?_ (by omega) (by omega)
      show RW (flat (pPart (x :: r))) _ _
      rw [flat_part0 hc]
      exact ⟨w1, w2, w3⟩
    · have hc : 1 ≤ x.2.1 := by
        rw [e1, q2] at h
        by_cases z : x.2.1 = 0
        · rw [if_pos z] at h; omega
        · omega
      refine k (updS s 6 (s 6 + 1)) _ (fun j h => by simp [updS, h]) (fun j h1 h2 => by simp [updA, h1, h2]) (fin _ _ (fun j h => by simp [updS, h]) (fun j h1 h2 => by simp [updA, h1, h2]) rfl) ?_ (Int.le_refl _) (by show s 6 ≤ s 6 + 1; omega)
      show RW (flat (pPart (x :: r))) _ _
      rw [flat_part1 hc]
      refine ⟨?_, ?_, updI_in (mvI_in w3) (by decide)⟩
      · show s 6 + 1 = _
        rw [← hfl]
        show (((flat r ++ (List.replicate (x.2.1 - 1).toNat 0 ++ exs x.2.2)).length : Nat) : Int) + 1 = _
        simp only [List.length_append, List.length_cons]
        omega
      · show rg (updI (mvI (a 4) (a 7 (s 18 - 1)) (s 6)) (a 7 (s 18 - 1)) 0) _ 0 = _
        rw [e1, q1, ← hfl]
        exact ins_rg w2
theorem M_levelT2 {d : Nat} {A B : List va_E} {s : Nat → Int} {vl : Int64} {a : Nat → Int → Int} {nm : Nat → Int64} {Q : Option Value → List va_E → Nat → Nat → Prop} {S : PS} {x t : Int} (hA : A.length = 18) (hR : RL S (updS s 21 t) a nm) (hw : RW (flat S.1) s a) (hx : (x = 0 ∧ (S.2.1.length : Int) + nP S.1 + 1 ≤ 40 ∧ S.2.2.2 = 0) ∨ (0 < x ∧ x = S.2.2.2)) (k : ∀ s' a', (∀ j, j ≠ 18 → s' j = s j) → (∀ j, j ≠ 7 → j ≠ 8 → j ≠ 9 → a' j = a j) → RL ((x, 0, []) :: S.1, S.2.1, 0, 0) (updS s' 21 (t + (if x = 0 then 1 else 0))) a' nm → RW (flat ((x, 0, []) :: S.1)) s' a' → Q none (mh A s' vl a' nm B) 0 0) : pm_E none d pm_mm150 0 [(0, .ref 18), (1, .int (iI x))] [] (mh A s vl a nm B) 0 0 Q := by
  have hl : 1 ≤ s 18 ∧ s 18 ≤ 41 ∧ 0 ≤ s 20 ∧ s 20 ≤ 40 ∧ 0 ≤ t := RL_len hR
  obtain ⟨g1, g2, g3, g4, g5, g6, g7, g8, g9, g10⟩ := hR
  replace g1 : s 18 = (S.1.length : Int) := g1
  replace g5 : t = (S.2.1.length : Int) + nP S.1 := g5
  obtain ⟨w1, w2, w3⟩ := hw
  refine M_level hA (by omega) (by omega) ?_
  refine k _ _ (fun j h => by simp [updS, h]) (fun j h1 h2 h3 => by simp [updA, h1, h2, h3]) ?_ ?_
  · refine ⟨?_, ⟨?_, ?_, ?_, Int.le_refl 0, lvR_eq (fun j z y => ?_) g2⟩, g3, g4, ?_, ?_, Or.inr ⟨by show 0 ≤ x; omega, g7⟩, ?_, Int.le_refl 0, g10⟩
    · show s 18 + 1 = ((S.1.length + 1 : Nat) : Int); omega
    · show updI (a 7) (s 18) (s 6) (S.1.length : Int) = _; rw [← g1, updI_s]; exact w1
    · show updI (a 8) (s 18) 0 (S.1.length : Int) = if (0 : Int) = 0 then 0 else 1; rw [← g1, updI_s]; rfl
    · show updI (a 9) (s 18) x (S.1.length : Int) = x; rw [← g1, updI_s]
    · show updI (a 7) (s 18) (s 6) j = a 7 j ∧ updI (a 8) (s 18) 0 j = a 8 j ∧ updI (a 9) (s 18) x j = a 9 j
      rw [updI_n _ _ (by omega), updI_n _ _ (by omega), updI_n _ _ (by omega)]
      exact ⟨rfl, rfl, rfl⟩
    · show t + (if x = 0 then 1 else 0) = (S.2.1.length : Int) + ((if x = 0 then 1 else 0) + nP S.1)
      omega
    · show t + (if x = 0 then 1 else 0) ≤ 40
      replace g6 : t ≤ 40 := g6
      rcases hx with hx | hx
      · rw [if_pos hx.1]; omega
      · rw [if_neg (by omega)]; omega
    · show (if 0 < x then x else 0) + sK S.1 + 0 = S.2.1.length
      rcases hx with hx | hx
      · rw [if_neg (by omega)]; omega
      · rw [if_pos hx.1]; omega
  · have : flat ((x, 0, []) :: S.1) = flat S.1 := by
      show flat S.1 ++ ([] ++ []) = _
      rw [List.append_nil, List.append_nil]
    rw [this]
    exact ⟨w1, w2, w3⟩
def FX (R : PR) (s : Nat → Int) (a : Nat → Int → Int) : Prop := (s 13 ≠ 0 ∧ fl (s 13) ∧ R = .inl (s 13, s 14)) ∨ (s 13 = 0 ∧ ∃ t F, R = .inr t ∧ tL F 0 (exs t) ∧ RW (exs t) s a ∧ s 6 ≤ 11000)
theorem frP_t {s s1 s2 : Nat → Int} {a a1 a2 : Nat → Int → Int} (h : frP s a s1 a1) (h' : frP s1 a1 s2 a2) : frP s a s2 a2 := ⟨fun j q1 q2 q3 q4 q5 q6 q7 q8 q9 => by rw [h'.1 j q1 q2 q3 q4 q5 q6 q7 q8 q9]; exact h.1 j q1 q2 q3 q4 q5 q6 q7 q8 q9, fun j q1 q2 q3 q4 => by rw [h'.2 j q1 q2 q3 q4]; exact h.2 j q1 q2 q3 q4⟩
theorem pst_hm {S S' : PS} {k v : Int} (h0 : S.2.2.1 = 0) (hk : ¬ (k = 4 ∧ v = 92)) (hp : pst S k v = some S') : S'.2.2.1 = 0 ∧ S'.2.2.2 = 0 := by
  unfold pst at hp
  rw [if_pos h0] at hp
  by_cases k1 : k = 1
  · rw [if_pos k1] at hp
    cases hf : pfind v S.2.1 0 with
    | none => rw [hf] at hp; cases hp
    | some j => rw [hf] at hp; cases hp; exact ⟨rfl, rfl⟩
  rw [if_neg k1] at hp
  by_cases k2 : k = 2
  · rw [if_pos k2] at hp; cases hp; exact ⟨rfl, rfl⟩
  rw [if_neg k2] at hp
  by_cases k3 : k = 3
  · rw [if_pos k3] at hp; cases hp; exact ⟨rfl, rfl⟩
  rw [if_neg k3] at hp
  by_cases k4 : k = 4 ∧ v = 40
  · rw [if_pos k4] at hp
    split at hp
    · cases hp
    · cases hp; exact ⟨rfl, rfl⟩
  rw [if_neg k4, if_neg hk] at hp
  by_cases k6 : k = 4 ∧ v = 41
  · rw [if_pos k6] at hp
    unfold pClose at hp
    split at hp
    · cases hp
    · split at hp
      · cases hp
      · split at hp
        · split at hp
          · cases hp; exact ⟨rfl, rfl⟩
          · cases hp
        · cases hp
  · rw [if_neg k6] at hp; cases hp
set_option maxHeartbeats 4000000 in
set_option maxRecDepth 100000 in
theorem M_readTerm_f {d : Nat} {A B : List va_E} {Q : Option Value → List va_E → Nat → Nat → Prop} {s0 : Nat → Int} {a0 : Nat → Int → Int} {RES : PR} {s : Nat → Int} {v : Int} {a : Nat → Int → Int} {nm : Nat → Int64} {o : Int} (hA : A.length = 18) (k : ∀ s' v' a' nm', frP s0 a0 s' a' → (0 ≤ v' ∧ v' ≤ 282429536481) → FX RES s' a' → ∀ o', pm_E none (d + 3) pm_mm149 299 [(0, .ref 18), (1, .int (iI (o')))] [] (mh A s' (lI v') a' nm' B) 0 0 Q) (ho : in32 o) (hfr : frP s0 a0 s a) (hv : 0 ≤ v ∧ v ≤ 282429536481) (h13 : s 13 ≠ 0) (h13b : fl (s 13)) (hR : RES = .inl (s 13, s 14)) : pm_E none (d + 3) pm_mm149 36 [(0, .ref 18), (1, .int (iI o))] [] (mh A s (lI v) a nm B) 0 0 Q := by
  refine pm_e_sim pm_a149_36 rfl ?_
  show pm_E _ _ _ 37 [(0, .ref 18), (1, .int (iI o))] [.int (iI o)] _ _ _ _
  refine pm_i_eq (t := 299) pm_a149_37 rfl ⟨by omega, by omega⟩ (fun h_1 => ?_) (fun h_1 => ?_)
  · skip
    show pm_E _ _ _ 299 [(0, .ref 18), (1, .int (iI o))] [] _ _ _ _
    exact k s v a nm hfr hv (Or.inl ⟨h13, h13b, hR⟩) o
  · skip
    show pm_E _ _ _ 40 [(0, .ref 18), (1, .int (iI o))] [] _ _ _ _
    refine pm_e_sim pm_a149_40 rfl ?_
    show pm_E _ _ _ 41 [(0, .ref 18), (1, .int (iI o))] [.ref 18] _ _ _ _
    refine pm_i_get pm_a149_41 rfl (mh_get (j := 0) hA rfl) rfl ?_
    show pm_E _ _ _ 44 [(0, .ref 18), (1, .int (iI o))] [.int (iI (s 13))] _ _ _ _
    refine pm_i_ne (t := 299) pm_a149_44 rfl ⟨by omega, by omega⟩ (fun h_2 => ?_) (fun h_2 => ?_)
    · skip
      show pm_E _ _ _ 299 [(0, .ref 18), (1, .int (iI o))] [] _ _ _ _
      exact k s v a nm hfr hv (Or.inl ⟨h13, h13b, hR⟩) o
    · skip
      exfalso; omega
theorem RL_popP {x y : Lev} {r : List Lev} {ns : List Int} {s s' : Nat → Int} {a : Nat → Int → Int} {nm : Nat → Int64} (h : RL (x :: y :: r, ns, 0, 0) s a nm) (hx : x.1 = 0) (h1 : s' 18 = s 18 - 1) (h2 : s' 20 = s 20) (h3 : s' 21 = s 21 - 1) : RL ((y.1, y.2.1, y.2.2 ++ ([-x.2.1] ++ x.2.2)) :: r, ns, 0, 0) s' a nm := by
  obtain ⟨g1, g2, g3, g4, g5, g6, g7, g8, g9, g10⟩ := h
  replace g1 : s 18 = ((r.length + 1 + 1 : Nat) : Int) := g1
  replace g3 : s 20 = (ns.length : Int) := g3
  have e2 : nP (x :: y :: r) = 1 + nP (y :: r) := by show (if x.1 = 0 then 1 else 0) + nP (y :: r) = _; rw [if_pos hx]
  have e3 : sK (x :: y :: r) = sK (y :: r) := by show (if 0 < x.1 then x.1 else 0) + sK (y :: r) = _; rw [if_neg (by omega)]; omega
  replace g5 : s 21 = (ns.length : Int) + nP (x :: y :: r) := g5
  replace g8 : sK (x :: y :: r) + 0 = (ns.length : Int) := g8
  refine ⟨?_, g2.2.2.2.2, ?_, g4, ?_, by omega, ?_, ?_, Int.le_refl 0, g10⟩
  · show s' 18 = ((r.length + 1 : Nat) : Int); omega
  · show s' 20 = (ns.length : Int); omega
  · show s' 21 = (ns.length : Int) + nP (y :: r); omega
  · rcases g7 with ⟨_, h5⟩ | ⟨_, h5⟩
    · cases h5
    · exact h5
  · show sK (y :: r) + 0 = (ns.length : Int); omega
set_option maxHeartbeats 4000000 in
set_option maxRecDepth 100000 in
theorem M_readTerm_0 {d : Nat} {A B : List va_E} {s : Nat → Int} {vl : Int64} {a : Nat → Int → Int} {nm : Nat → Int64} {Q : Option Value → List va_E → Nat → Nat → Prop} (k : pm_E none (d + 3) pm_mm149 299 [(0, .ref 18), (1, .int (iI 0))] [] (mh A s vl a nm B) 0 0 Q) : pm_E none (d + 3) pm_mm149 36 [(0, .ref 18), (1, .int (iI 0))] [] (mh A s vl a nm B) 0 0 Q := by
  refine pm_e_sim pm_a149_36 rfl ?_
  show pm_E _ _ _ 37 [(0, .ref 18), (1, .int (iI 0))] [.int (iI 0)] _ _ _ _
  refine pm_e_ift pm_a149_37 rfl (by decide +kernel) ?_
  show pm_E _ _ _ 299 [(0, .ref 18), (1, .int (iI 0))] [] _ _ _ _
  exact k
set_option maxHeartbeats 4000000 in
set_option maxRecDepth 100000 in
theorem M_readTerm_c0 {d : Nat} {A B : List va_E} {Q : Option Value → List va_E → Nat → Nat → Prop} {s0 : Nat → Int} {a0 : Nat → Int → Int} {RES : PR} {x : Lev} {r : List Lev} {ns : List Int} {i v : Int} {s : Nat → Int} {a : Nat → Int → Int} {nm : Nat → Int64} (hA : A.length = 18) (hb : ∀ j, 0 ≤ a0 3 j ∧ a0 3 j ≤ 255) (h4 : 0 ≤ s0 4) (h5 : s0 4 ≤ 600) (k : ∀ s' v' a' nm', frP s0 a0 s' a' → (0 ≤ v' ∧ v' ≤ 282429536481) → FX RES s' a' → ∀ o', pm_E none (d + 3) pm_mm149 299 [(0, .ref 18), (1, .int (iI (o')))] [] (mh A s' (lI v') a' nm' B) 0 0 Q) (ih : ∀ (S' : PS) (i' : Int) (s : Nat → Int) (v : Int) (a : Nat → Int → Int) (nm : Nat → Int64), gd S' → S'.2.2.1 = 0 → S'.2.2.2 = 0 → frP s0 a0 s a → (0 ≤ v ∧ v ≤ 282429536481) → 0 ≤ i' → i < i' → i' ≤ s0 4 → RES = prN (a0 3) (s0 4) S' i' → RL S' s a nm → RW (flat S'.1) s a → (0 ≤ (tok (a0 3) (s0 4) i').1 ∧ s 13 = 0 ∧ s 11 = (tok (a0 3) (s0 4) i').1 ∧ v = (tok (a0 3) (s0 4) i').2.1 ∧ s 10 = (tok (a0 3) (s0 4) i').2.2.1 ∧ s 9 = (tok (a0 3) (s0 4) i').2.2.2) → BD (a0 3) (s0 4) i' (s 6) → pm_E none (d + 3) pm_mm149 36 [(0, .ref 18), (1, .int (iI 1))] [] (mh A s (lI v) a nm B) 0 0 Q) (hgd : gd (x :: r, ns, 0, 0)) (hfr : frP s0 a0 s a) (hv : 0 ≤ v ∧ v ≤ 282429536481) (hi0 : 0 ≤ i) (hi1 : i ≤ s0 4) (hres : RES = prN (a0 3) (s0 4) (x :: r, ns, 0, 0) i) (hR : RL (x :: r, ns, 0, 0) s a nm) (hw : RW (flat (x :: r)) s a) (htk : (0 ≤ (tok (a0 3) (s0 4) i).1 ∧ s 13 = 0 ∧ s 11 = (tok (a0 3) (s0 4) i).1 ∧ v = (tok (a0 3) (s0 4) i).2.1 ∧ s 10 = (tok (a0 3) (s0 4) i).2.2.1 ∧ s 9 = (tok (a0 3) (s0 4) i).2.2.2)) (hbd : BD (a0 3) (s0 4) i (s 6)) (hkk : (tok (a0 3) (s0 4) i).1 = 0 ∨ ((tok (a0 3) (s0 4) i).1 = 4 ∧ v = 41)) (hc : x.2.1 = 0) : pm_E none (d + 3) pm_mm149 193 [(0, .ref 18), (1, .int (iI 1))] [] (mh A s (lI v) a nm B) 0 0 Q := by
  obtain ⟨hk0, h13, e11, ev, e10, e9⟩ := htk
  have tf := tok_facts (b := a0 3) (n := s0 4) (i := i) hi0 hi1 h5
  have t5v := tf.2.2.2.2.1 (by omega)
  have t6v := tf.2.2.2.2.2.1
  have bt := BD_tok hi0 hi1 h5 hbd
  have f3 : a 3 = a0 3 := hfr.2 3 (by omega) (by omega) (by omega) (by omega)
  have f4 : s 4 = s0 4 := hfr.1 4 (by omega) (by omega) (by omega) (by omega) (by omega) (by omega) (by omega) (by omega) (by omega)
  have hw6 := hw.1
  refine pm_e_sim pm_a149_193 rfl ?_
  show pm_E _ _ _ 194 [(0, .ref 18), (1, .int (iI 1))] [.ref 18] _ _ _ _
  refine pm_i_callv (k := 18) (T2 := pm_mm161) pm_a149_194 rfl rfl rfl (mh_get (j := 0) hA rfl) ⟨Nat.le_of_ble_eq_true rfl, Nat.le_of_ble_eq_true rfl, rfl, by decide +kernel⟩ ?_
  show pm_E none _ _ 0 [(0, .ref 18)] [] _ _ _ _
  refine M_closes0 hA hR h13 hc (fun s1 gS1 z13 z13b z13c => ?_)
  have e111 : s1 11 = s 11 := gS1 11 (by omega) (by omega)
  show pm_E _ _ _ 197 [(0, .ref 18), (1, .int (iI 1))] [] _ _ _ _
  refine pm_e_sim pm_a149_197 rfl ?_
  show pm_E _ _ _ 198 [(0, .ref 18), (1, .int (iI 1))] [.ref 18] _ _ _ _
  refine pm_i_get pm_a149_198 rfl (mh_get (j := 0) hA rfl) rfl ?_
  show pm_E _ _ _ 201 [(0, .ref 18), (1, .int (iI 1))] [.int (iI (s1 11))] _ _ _ _
  refine pm_i_eq (t := 208) pm_a149_201 rfl ⟨by omega, by omega⟩ (fun h_1 => ?_) (fun h_1 => ?_)
  · skip
    show pm_E _ _ _ 208 [(0, .ref 18), (1, .int (iI 1))] [] _ _ _ _
    refine pm_e_sim pm_a149_208 rfl ?_
    refine pm_e_top (y := iI 0) (by decide +kernel) ?_
    show pm_E _ _ _ 209 [(0, .ref 18), (1, .int (iI 1))] [.int (iI 0)] _ _ _ _
    refine pm_e_sim pm_a149_209 rfl ?_
    show pm_E _ _ _ 210 [(0, .ref 18), (1, .int (iI 0))] [] _ _ _ _
    refine pm_e_sim pm_a149_210 rfl ?_
    show pm_E _ _ _ 211 [(0, .ref 18), (1, .int (iI 0))] [.ref 18] _ _ _ _
    refine pm_i_get pm_a149_211 rfl (mh_get (j := 0) hA rfl) rfl ?_
    show pm_E _ _ _ 214 [(0, .ref 18), (1, .int (iI 0))] [.int (iI (s1 13))] _ _ _ _
    refine pm_i_ne (t := 249) pm_a149_214 rfl ⟨by omega, by omega⟩ (fun h_2 => ?_) (fun h_2 => ?_)
    · skip
      show pm_E _ _ _ 249 [(0, .ref 18), (1, .int (iI 0))] [] _ _ _ _
      refine pm_e_sim pm_a149_249 rfl ?_
      show pm_E _ _ _ 250 [(0, .ref 18), (1, .int (iI 0))] [.ref 18] _ _ _ _
      refine pm_i_get pm_a149_250 rfl (mh_get (j := 0) hA rfl) rfl ?_
      show pm_E _ _ _ 253 [(0, .ref 18), (1, .int (iI 0))] [.int (iI (s1 13))] _ _ _ _
      refine pm_i_ne (t := 36) pm_a149_253 rfl ⟨by omega, by omega⟩ (fun h_3 => ?_) (fun h_3 => ?_)
      · skip
        show pm_E _ _ _ 36 [(0, .ref 18), (1, .int (iI 0))] [] _ _ _ _
        refine M_readTerm_f hA k (by decide) (frP_t hfr ⟨fun j q1 q2 q3 q4 q5 q6 q7 q8 q9 => gS1 j q5 q6, fun j _ _ _ _ => rfl⟩) hv z13 z13b ?_
        rw [hres, z13c.1, z13c.2, e10]
        by_cases hz : (tok (a0 3) (s0 4) i).1 = 0
        · rw [prN_end hz]; refine pEn_n ?_; unfold pEnd; dsimp only; rw [if_pos rfl, if_pos hc]
        · refine prN_nc (by omega) ?_ (pft_o rfl (by omega) (by omega))
          unfold pst
          dsimp only
          rw [if_pos rfl, if_neg (by omega), if_neg (by omega), if_neg (by omega), if_neg (by omega), if_neg (by omega), if_pos ⟨by omega, by omega⟩]
          unfold pClose
          dsimp only
          rw [if_pos hc]
      · skip
        exfalso; omega
    · skip
      exfalso; omega
  · skip
    show pm_E _ _ _ 204 [(0, .ref 18), (1, .int (iI 1))] [] _ _ _ _
    refine pm_e_sim pm_a149_204 rfl ?_
    refine pm_e_top (y := iI 1) (by decide +kernel) ?_
    show pm_E _ _ _ 205 [(0, .ref 18), (1, .int (iI 1))] [.int (iI 1)] _ _ _ _
    refine pm_e_goto pm_a149_205 rfl ?_
    show pm_E _ _ _ 209 [(0, .ref 18), (1, .int (iI 1))] [.int (iI 1)] _ _ _ _
    refine pm_e_sim pm_a149_209 rfl ?_
    show pm_E _ _ _ 210 [(0, .ref 18), (1, .int (iI 1))] [] _ _ _ _
    refine pm_e_sim pm_a149_210 rfl ?_
    show pm_E _ _ _ 211 [(0, .ref 18), (1, .int (iI 1))] [.ref 18] _ _ _ _
    refine pm_i_get pm_a149_211 rfl (mh_get (j := 0) hA rfl) rfl ?_
    show pm_E _ _ _ 214 [(0, .ref 18), (1, .int (iI 1))] [.int (iI (s1 13))] _ _ _ _
    refine pm_i_ne (t := 249) pm_a149_214 rfl ⟨by omega, by omega⟩ (fun h_4 => ?_) (fun h_4 => ?_)
    · skip
      show pm_E _ _ _ 249 [(0, .ref 18), (1, .int (iI 1))] [] _ _ _ _
      refine pm_e_sim pm_a149_249 rfl ?_
      show pm_E _ _ _ 250 [(0, .ref 18), (1, .int (iI 1))] [.ref 18] _ _ _ _
      refine pm_i_get pm_a149_250 rfl (mh_get (j := 0) hA rfl) rfl ?_
      show pm_E _ _ _ 253 [(0, .ref 18), (1, .int (iI 1))] [.int (iI (s1 13))] _ _ _ _
      refine pm_i_ne (t := 36) pm_a149_253 rfl ⟨by omega, by omega⟩ (fun h_5 => ?_) (fun h_5 => ?_)
      · skip
        show pm_E _ _ _ 36 [(0, .ref 18), (1, .int (iI 1))] [] _ _ _ _
        refine M_readTerm_f hA k (by decide) (frP_t hfr ⟨fun j q1 q2 q3 q4 q5 q6 q7 q8 q9 => gS1 j q5 q6, fun j _ _ _ _ => rfl⟩) hv z13 z13b ?_
        rw [hres, z13c.1, z13c.2, e10]
        by_cases hz : (tok (a0 3) (s0 4) i).1 = 0
        · rw [prN_end hz]; refine pEn_n ?_; unfold pEnd; dsimp only; rw [if_pos rfl, if_pos hc]
        · refine prN_nc (by omega) ?_ (pft_o rfl (by omega) (by omega))
          unfold pst
          dsimp only
          rw [if_pos rfl, if_neg (by omega), if_neg (by omega), if_neg (by omega), if_neg (by omega), if_neg (by omega), if_pos ⟨by omega, by omega⟩]
          unfold pClose
          dsimp only
          rw [if_pos hc]
      · skip
        exfalso; omega
    · skip
      exfalso; omega
set_option maxHeartbeats 4000000 in
set_option maxRecDepth 100000 in
theorem M_readTerm_c1 {d : Nat} {A B : List va_E} {Q : Option Value → List va_E → Nat → Nat → Prop} {s0 : Nat → Int} {a0 : Nat → Int → Int} {RES : PR} {x : Lev} {r : List Lev} {ns : List Int} {i v : Int} {s : Nat → Int} {a : Nat → Int → Int} {nm : Nat → Int64} (hA : A.length = 18) (hb : ∀ j, 0 ≤ a0 3 j ∧ a0 3 j ≤ 255) (h4 : 0 ≤ s0 4) (h5 : s0 4 ≤ 600) (k : ∀ s' v' a' nm', frP s0 a0 s' a' → (0 ≤ v' ∧ v' ≤ 282429536481) → FX RES s' a' → ∀ o', pm_E none (d + 3) pm_mm149 299 [(0, .ref 18), (1, .int (iI (o')))] [] (mh A s' (lI v') a' nm' B) 0 0 Q) (ih : ∀ (S' : PS) (i' : Int) (s : Nat → Int) (v : Int) (a : Nat → Int → Int) (nm : Nat → Int64), gd S' → S'.2.2.1 = 0 → S'.2.2.2 = 0 → frP s0 a0 s a → (0 ≤ v ∧ v ≤ 282429536481) → 0 ≤ i' → i < i' → i' ≤ s0 4 → RES = prN (a0 3) (s0 4) S' i' → RL S' s a nm → RW (flat S'.1) s a → (0 ≤ (tok (a0 3) (s0 4) i').1 ∧ s 13 = 0 ∧ s 11 = (tok (a0 3) (s0 4) i').1 ∧ v = (tok (a0 3) (s0 4) i').2.1 ∧ s 10 = (tok (a0 3) (s0 4) i').2.2.1 ∧ s 9 = (tok (a0 3) (s0 4) i').2.2.2) → BD (a0 3) (s0 4) i' (s 6) → pm_E none (d + 3) pm_mm149 36 [(0, .ref 18), (1, .int (iI 1))] [] (mh A s (lI v) a nm B) 0 0 Q) (hgd : gd (x :: r, ns, 0, 0)) (hfr : frP s0 a0 s a) (hv : 0 ≤ v ∧ v ≤ 282429536481) (hi0 : 0 ≤ i) (hi1 : i ≤ s0 4) (hres : RES = prN (a0 3) (s0 4) (x :: r, ns, 0, 0) i) (hR : RL (x :: r, ns, 0, 0) s a nm) (hw : RW (flat (x :: r)) s a) (htk : (0 ≤ (tok (a0 3) (s0 4) i).1 ∧ s 13 = 0 ∧ s 11 = (tok (a0 3) (s0 4) i).1 ∧ v = (tok (a0 3) (s0 4) i).2.1 ∧ s 10 = (tok (a0 3) (s0 4) i).2.2.1 ∧ s 9 = (tok (a0 3) (s0 4) i).2.2.2)) (hbd : BD (a0 3) (s0 4) i (s 6)) (hkk : (tok (a0 3) (s0 4) i).1 = 0 ∨ ((tok (a0 3) (s0 4) i).1 = 4 ∧ v = 41)) (hc : 1 ≤ x.2.1) : pm_E none (d + 3) pm_mm149 193 [(0, .ref 18), (1, .int (iI 1))] [] (mh A s (lI v) a nm B) 0 0 Q := by
  obtain ⟨hk0, h13, e11, ev, e10, e9⟩ := htk
  have tf := tok_facts (b := a0 3) (n := s0 4) (i := i) hi0 hi1 h5
  have t5v := tf.2.2.2.2.1 (by omega)
  have t6v := tf.2.2.2.2.2.1
  have bt := BD_tok hi0 hi1 h5 hbd
  have f3 : a 3 = a0 3 := hfr.2 3 (by omega) (by omega) (by omega) (by omega)
  have f4 : s 4 = s0 4 := hfr.1 4 (by omega) (by omega) (by omega) (by omega) (by omega) (by omega) (by omega) (by omega) (by omega)
  have hw6 := hw.1
  refine pm_e_sim pm_a149_193 rfl ?_
  show pm_E _ _ _ 194 [(0, .ref 18), (1, .int (iI 1))] [.ref 18] _ _ _ _
  refine pm_i_callv (k := 18) (T2 := pm_mm161) pm_a149_194 rfl rfl rfl (mh_get (j := 0) hA rfl) ⟨Nat.le_of_ble_eq_true rfl, Nat.le_of_ble_eq_true rfl, rfl, by decide +kernel⟩ ?_
  show pm_E none _ _ 0 [(0, .ref 18)] [] _ _ _ _
  have hg : gL (x :: r) ns.length (-1) := by
    have h9 : gL (x :: r) ((ns.length : Int) - 0) (if (0 : Int) = 0 then -1 else 0) := hgd.2.2.2
    rw [if_pos rfl, show (ns.length : Int) - 0 = ns.length by omega] at h9
    exact h9
  refine M_closes_l hA (r.length + 1) x r ns s hR hg hc h13 (fun s1 gS1 z13 hR1 => ?_) (by omega)
  obtain ⟨p1, p2, p3⟩ := gL_pPop hg hc
  have hfp := flat_pPop hg hc
  generalize hP : pPop x r ns = P at p1 p2 p3 hfp hR1
  obtain ⟨y, r2, ns2⟩ := P
  dsimp only at p1 p2 p3 hfp hR1
  have hl1 := RL_len hR1
  obtain ⟨t1, t2, t3, t4, t5⟩ := RL_top hR1
  have e111 : s1 11 = s 11 := gS1 11 (by omega) (by omega) (by omega)
  have e106 : s1 6 = s 6 := gS1 6 (by omega) (by omega) (by omega)
  have h21 := hR1.2.2.2.2.2.1
  have hy0 : y.1 = -1 → r2 = [] := fun z => hR1.2.2.2.2.2.2.1.elim (fun q => q.2) (fun q => by exfalso; omega)
  have hy1 : 0 ≤ y.1 → r2 ≠ [] := fun z q => by
    rcases hR1.2.2.2.2.2.2.1 with q9 | ⟨_, q9⟩
    · omega
    · rw [q] at q9; exact q9
  show pm_E _ _ _ 197 [(0, .ref 18), (1, .int (iI 1))] [] _ _ _ _
  refine pm_e_sim pm_a149_197 rfl ?_
  show pm_E _ _ _ 198 [(0, .ref 18), (1, .int (iI 1))] [.ref 18] _ _ _ _
  refine pm_i_get pm_a149_198 rfl (mh_get (j := 0) hA rfl) rfl ?_
  show pm_E _ _ _ 201 [(0, .ref 18), (1, .int (iI 1))] [.int (iI (s1 11))] _ _ _ _
  refine pm_i_eq (t := 208) pm_a149_201 rfl ⟨by omega, by omega⟩ (fun h_1 => ?_) (fun h_1 => ?_)
  · skip
    show pm_E _ _ _ 208 [(0, .ref 18), (1, .int (iI 1))] [] _ _ _ _
    refine pm_e_sim pm_a149_208 rfl ?_
    refine pm_e_top (y := iI 0) (by decide +kernel) ?_
    show pm_E _ _ _ 209 [(0, .ref 18), (1, .int (iI 1))] [.int (iI 0)] _ _ _ _
    refine pm_e_sim pm_a149_209 rfl ?_
    show pm_E _ _ _ 210 [(0, .ref 18), (1, .int (iI 0))] [] _ _ _ _
    refine pm_e_sim pm_a149_210 rfl ?_
    show pm_E _ _ _ 211 [(0, .ref 18), (1, .int (iI 0))] [.ref 18] _ _ _ _
    refine pm_i_get pm_a149_211 rfl (mh_get (j := 0) hA rfl) rfl ?_
    show pm_E _ _ _ 214 [(0, .ref 18), (1, .int (iI 0))] [.int (iI (s1 13))] _ _ _ _
    refine pm_i_ne (t := 249) pm_a149_214 rfl ⟨by omega, by omega⟩ (fun h_2 => ?_) (fun h_2 => ?_)
    · skip
      exfalso; omega
    · skip
      show pm_E _ _ _ 217 [(0, .ref 18), (1, .int (iI 0))] [] _ _ _ _
      refine pm_e_sim pm_a149_217 rfl ?_
      show pm_E _ _ _ 218 [(0, .ref 18), (1, .int (iI 0))] [.ref 18] _ _ _ _
      refine pm_i_get pm_a149_218 rfl (mh_get (j := 0) hA rfl) rfl ?_
      show pm_E _ _ _ 221 [(0, .ref 18), (1, .int (iI 0))] [.ref 27] _ _ _ _
      refine pm_e_sim pm_a149_221 rfl ?_
      show pm_E _ _ _ 222 [(0, .ref 18), (1, .int (iI 0))] [.ref 18, .ref 27] _ _ _ _
      refine pm_i_get pm_a149_222 rfl (mh_get (j := 0) hA rfl) rfl ?_
      show pm_E _ _ _ 225 [(0, .ref 18), (1, .int (iI 0))] [.int (iI (s1 18)), .ref 27] _ _ _ _
      refine pm_e_sim pm_a149_225 rfl ?_
      refine pm_e_top (y := iI 1) (by decide +kernel) ?_
      show pm_E _ _ _ 226 [(0, .ref 18), (1, .int (iI 0))] [.int (iI 1), .int (iI (s1 18)), .ref 27] _ _ _ _
      refine pm_e_sim pm_a149_226 rfl ?_
      refine pm_e_top (y := iI (s1 18 - 1)) (iI_sub _ _) ?_
      show pm_E _ _ _ 227 [(0, .ref 18), (1, .int (iI 0))] [.int (iI (s1 18 - 1)), .ref 27] _ _ _ _
      refine pm_i_ald pm_a149_227 (mh_get (j := 9) hA rfl) (by omega) (by omega) ⟨by omega, by omega⟩ ?_
      show pm_E _ _ _ 228 [(0, .ref 18), (1, .int (iI 0))] [.int (iI ((a 9) (s1 18 - 1)))] _ _ _ _
      refine pm_i_ge (t := 235) pm_a149_228 rfl ⟨by omega, by omega⟩ (fun h_3 => ?_) (fun h_3 => ?_)
      · skip
        show pm_E _ _ _ 235 [(0, .ref 18), (1, .int (iI 0))] [] _ _ _ _
        refine pm_e_sim pm_a149_235 rfl ?_
        refine pm_e_top (y := iI 0) (by decide +kernel) ?_
        show pm_E _ _ _ 236 [(0, .ref 18), (1, .int (iI 0))] [.int (iI 0)] _ _ _ _
        refine pm_e_sim pm_a149_236 rfl ?_
        show pm_E _ _ _ 237 [(0, .ref 18), (1, .int (iI 0))] [.int (iI 0), .int (iI 0)] _ _ _ _
        refine pm_e_icf pm_a149_237 rfl (by decide +kernel) ?_
        show pm_E _ _ _ 240 [(0, .ref 18), (1, .int (iI 0))] [] _ _ _ _
        refine pm_e_sim pm_a149_240 rfl ?_
        show pm_E _ _ _ 241 [(0, .ref 18), (1, .int (iI 0))] [.ref 18] _ _ _ _
        refine pm_e_sim pm_a149_241 rfl ?_
        refine pm_e_top (y := iI 2) (by decide +kernel) ?_
        show pm_E _ _ _ 242 [(0, .ref 18), (1, .int (iI 0))] [.int (iI 2), .ref 18] _ _ _ _
        refine pm_e_sim pm_a149_242 rfl ?_
        show pm_E _ _ _ 243 [(0, .ref 18), (1, .int (iI 0))] [.ref 18, .int (iI 2), .ref 18] _ _ _ _
        refine pm_i_get pm_a149_243 rfl (mh_get (j := 0) hA rfl) rfl ?_
        show pm_E _ _ _ 246 [(0, .ref 18), (1, .int (iI 0))] [.int (iI (s1 10)), .int (iI 2), .ref 18] _ _ _ _
        refine pm_i_callv (k := 18) (T2 := pm_mm153) pm_a149_246 rfl rfl rfl (mh_get (j := 0) hA rfl) ⟨Nat.le_of_ble_eq_true rfl, Nat.le_of_ble_eq_true rfl, rfl, by decide +kernel⟩ ?_
        show pm_E none _ _ 0 [(0, .ref 18), (1, .int (iI 2)), (2, .int (iI (s1 10)))] [] _ _ _ _
        refine M_fails hA (by rw [z13]; decide) (fun _ => ?_) (fun z => absurd z13 z)
        show pm_E _ _ _ 249 [(0, .ref 18), (1, .int (iI 0))] [] _ _ _ _
        refine pm_e_sim pm_a149_249 rfl ?_
        show pm_E _ _ _ 250 [(0, .ref 18), (1, .int (iI 0))] [.ref 18] _ _ _ _
        refine pm_i_get pm_a149_250 rfl (mh_get (j := 0) hA rfl) rfl ?_
        show pm_E _ _ _ 253 [(0, .ref 18), (1, .int (iI 0))] [.int (iI (2))] _ _ _ _
        refine pm_i_ne (t := 36) pm_a149_253 rfl ⟨by omega, by omega⟩ (fun h_4 => ?_) (fun h_4 => ?_)
        · skip
          show pm_E _ _ _ 36 [(0, .ref 18), (1, .int (iI 0))] [] _ _ _ _
          refine M_readTerm_f hA k (by decide) (frP_t hfr ⟨fun j q1 q2 q3 q4 q5 q6 q7 q8 q9 => by simp [updS, q5, q6, gS1 j q7 q8 q9], fun j _ _ _ _ => rfl⟩) hv (by show (2 : Int) ≠ 0; decide) (by show fl 2; decide) ?_
          show RES = .inl ((2 : Int), s1 10)
          have hz : (tok (a0 3) (s0 4) i).1 = 0 := by omega
          have hr2 := hy1 (by omega)
          cases r2 with
          | nil => exact absurd rfl hr2
          | cons z r3 =>
            rw [hres, gS1 10 (by omega) (by omega) (by omega), e10]
            rw [prN_end hz]
            refine pEn_n ?_
            unfold pEnd
            dsimp only
            rw [if_pos rfl, if_neg (by omega), hP]
        · skip
          exfalso; omega
      · skip
        show pm_E _ _ _ 231 [(0, .ref 18), (1, .int (iI 0))] [] _ _ _ _
        refine pm_e_sim pm_a149_231 rfl ?_
        refine pm_e_top (y := iI 1) (by decide +kernel) ?_
        show pm_E _ _ _ 232 [(0, .ref 18), (1, .int (iI 0))] [.int (iI 1)] _ _ _ _
        refine pm_e_goto pm_a149_232 rfl ?_
        show pm_E _ _ _ 236 [(0, .ref 18), (1, .int (iI 0))] [.int (iI 1)] _ _ _ _
        refine pm_e_sim pm_a149_236 rfl ?_
        show pm_E _ _ _ 237 [(0, .ref 18), (1, .int (iI 0))] [.int (iI 0), .int (iI 1)] _ _ _ _
        refine pm_e_ict pm_a149_237 rfl (by decide +kernel) ?_
        show pm_E _ _ _ 249 [(0, .ref 18), (1, .int (iI 0))] [] _ _ _ _
        refine pm_e_sim pm_a149_249 rfl ?_
        show pm_E _ _ _ 250 [(0, .ref 18), (1, .int (iI 0))] [.ref 18] _ _ _ _
        refine pm_i_get pm_a149_250 rfl (mh_get (j := 0) hA rfl) rfl ?_
        show pm_E _ _ _ 253 [(0, .ref 18), (1, .int (iI 0))] [.int (iI (s1 13))] _ _ _ _
        refine pm_i_ne (t := 36) pm_a149_253 rfl ⟨by omega, by omega⟩ (fun h_5 => ?_) (fun h_5 => ?_)
        · skip
          exfalso; omega
        · skip
          show pm_E _ _ _ 256 [(0, .ref 18), (1, .int (iI 0))] [] _ _ _ _
          refine pm_e_sim pm_a149_256 rfl ?_
          show pm_E _ _ _ 257 [(0, .ref 18), (1, .int (iI 0))] [.int (iI 0)] _ _ _ _
          refine pm_e_ift pm_a149_257 rfl (by decide +kernel) ?_
          show pm_E _ _ _ 36 [(0, .ref 18), (1, .int (iI 0))] [] _ _ _ _
          refine M_readTerm_0 ?_
          have hz : (tok (a0 3) (s0 4) i).1 = 0 := by omega
          have hr2 := hy0 (by omega)
          subst hr2
          refine k s1 v a nm (frP_t hfr ⟨fun j q1 q2 q3 q4 q5 q6 q7 q8 q9 => gS1 j q7 q8 q9, fun j _ _ _ _ => rfl⟩) hv (Or.inr ⟨z13, ?_⟩) 0
          have hpe : pEnd (x :: r, ns, 0, 0) = some ([-y.2.1] ++ y.2.2) := by
            unfold pEnd
            dsimp only
            rw [if_pos rfl, if_neg (by omega), hP]
            dsimp only
            rw [if_pos (by omega)]
          obtain ⟨F, hF⟩ := gd_end hgd hpe
          refine ⟨_, F, by rw [hres, prN_end hz]; exact pEn_s hpe, hF, ?_, by have := bt.1; omega⟩
          have hfe : exs ([-y.2.1] ++ y.2.2) = flat (x :: r) := by
            rw [← hfp]
            have e1 : ex1 (-y.2.1) = List.replicate (y.2.1 - 1).toNat 0 := by
              unfold ex1
              rw [if_pos (by omega), show - -y.2.1 - 1 = y.2.1 - 1 by omega]
            rw [exs_app, exs_one, e1]
            rfl
          rw [hfe]
          exact ⟨by rw [e106]; exact hw.1, hw.2.1, hw.2.2⟩
  · skip
    show pm_E _ _ _ 204 [(0, .ref 18), (1, .int (iI 1))] [] _ _ _ _
    refine pm_e_sim pm_a149_204 rfl ?_
    refine pm_e_top (y := iI 1) (by decide +kernel) ?_
    show pm_E _ _ _ 205 [(0, .ref 18), (1, .int (iI 1))] [.int (iI 1)] _ _ _ _
    refine pm_e_goto pm_a149_205 rfl ?_
    show pm_E _ _ _ 209 [(0, .ref 18), (1, .int (iI 1))] [.int (iI 1)] _ _ _ _
    refine pm_e_sim pm_a149_209 rfl ?_
    show pm_E _ _ _ 210 [(0, .ref 18), (1, .int (iI 1))] [] _ _ _ _
    refine pm_e_sim pm_a149_210 rfl ?_
    show pm_E _ _ _ 211 [(0, .ref 18), (1, .int (iI 1))] [.ref 18] _ _ _ _
    refine pm_i_get pm_a149_211 rfl (mh_get (j := 0) hA rfl) rfl ?_
    show pm_E _ _ _ 214 [(0, .ref 18), (1, .int (iI 1))] [.int (iI (s1 13))] _ _ _ _
    refine pm_i_ne (t := 249) pm_a149_214 rfl ⟨by omega, by omega⟩ (fun h_6 => ?_) (fun h_6 => ?_)
    · skip
      exfalso; omega
    · skip
      show pm_E _ _ _ 217 [(0, .ref 18), (1, .int (iI 1))] [] _ _ _ _
      refine pm_e_sim pm_a149_217 rfl ?_
      show pm_E _ _ _ 218 [(0, .ref 18), (1, .int (iI 1))] [.ref 18] _ _ _ _
      refine pm_i_get pm_a149_218 rfl (mh_get (j := 0) hA rfl) rfl ?_
      show pm_E _ _ _ 221 [(0, .ref 18), (1, .int (iI 1))] [.ref 27] _ _ _ _
      refine pm_e_sim pm_a149_221 rfl ?_
      show pm_E _ _ _ 222 [(0, .ref 18), (1, .int (iI 1))] [.ref 18, .ref 27] _ _ _ _
      refine pm_i_get pm_a149_222 rfl (mh_get (j := 0) hA rfl) rfl ?_
      show pm_E _ _ _ 225 [(0, .ref 18), (1, .int (iI 1))] [.int (iI (s1 18)), .ref 27] _ _ _ _
      refine pm_e_sim pm_a149_225 rfl ?_
      refine pm_e_top (y := iI 1) (by decide +kernel) ?_
      show pm_E _ _ _ 226 [(0, .ref 18), (1, .int (iI 1))] [.int (iI 1), .int (iI (s1 18)), .ref 27] _ _ _ _
      refine pm_e_sim pm_a149_226 rfl ?_
      refine pm_e_top (y := iI (s1 18 - 1)) (iI_sub _ _) ?_
      show pm_E _ _ _ 227 [(0, .ref 18), (1, .int (iI 1))] [.int (iI (s1 18 - 1)), .ref 27] _ _ _ _
      refine pm_i_ald pm_a149_227 (mh_get (j := 9) hA rfl) (by omega) (by omega) ⟨by omega, by omega⟩ ?_
      show pm_E _ _ _ 228 [(0, .ref 18), (1, .int (iI 1))] [.int (iI ((a 9) (s1 18 - 1)))] _ _ _ _
      refine pm_i_ge (t := 235) pm_a149_228 rfl ⟨by omega, by omega⟩ (fun h_7 => ?_) (fun h_7 => ?_)
      · skip
        show pm_E _ _ _ 235 [(0, .ref 18), (1, .int (iI 1))] [] _ _ _ _
        refine pm_e_sim pm_a149_235 rfl ?_
        refine pm_e_top (y := iI 0) (by decide +kernel) ?_
        show pm_E _ _ _ 236 [(0, .ref 18), (1, .int (iI 1))] [.int (iI 0)] _ _ _ _
        refine pm_e_sim pm_a149_236 rfl ?_
        show pm_E _ _ _ 237 [(0, .ref 18), (1, .int (iI 1))] [.int (iI 1), .int (iI 0)] _ _ _ _
        refine pm_e_ict pm_a149_237 rfl (by decide +kernel) ?_
        show pm_E _ _ _ 249 [(0, .ref 18), (1, .int (iI 1))] [] _ _ _ _
        refine pm_e_sim pm_a149_249 rfl ?_
        show pm_E _ _ _ 250 [(0, .ref 18), (1, .int (iI 1))] [.ref 18] _ _ _ _
        refine pm_i_get pm_a149_250 rfl (mh_get (j := 0) hA rfl) rfl ?_
        show pm_E _ _ _ 253 [(0, .ref 18), (1, .int (iI 1))] [.int (iI (s1 13))] _ _ _ _
        refine pm_i_ne (t := 36) pm_a149_253 rfl ⟨by omega, by omega⟩ (fun h_8 => ?_) (fun h_8 => ?_)
        · skip
          exfalso; omega
        · skip
          show pm_E _ _ _ 256 [(0, .ref 18), (1, .int (iI 1))] [] _ _ _ _
          refine pm_e_sim pm_a149_256 rfl ?_
          show pm_E _ _ _ 257 [(0, .ref 18), (1, .int (iI 1))] [.int (iI 1)] _ _ _ _
          refine pm_e_iff pm_a149_257 rfl (by decide +kernel) ?_
          show pm_E _ _ _ 260 [(0, .ref 18), (1, .int (iI 1))] [] _ _ _ _
          refine pm_e_sim pm_a149_260 rfl ?_
          show pm_E _ _ _ 261 [(0, .ref 18), (1, .int (iI 1))] [.ref 18] _ _ _ _
          refine pm_e_sim pm_a149_261 rfl ?_
          show pm_E _ _ _ 262 [(0, .ref 18), (1, .int (iI 1))] [.ref 18, .ref 18] _ _ _ _
          refine pm_i_get pm_a149_262 rfl (mh_get (j := 0) hA rfl) rfl ?_
          show pm_E _ _ _ 265 [(0, .ref 18), (1, .int (iI 1))] [.int (iI (s1 18)), .ref 18] _ _ _ _
          refine pm_e_sim pm_a149_265 rfl ?_
          refine pm_e_top (y := iI 1) (by decide +kernel) ?_
          show pm_E _ _ _ 266 [(0, .ref 18), (1, .int (iI 1))] [.int (iI 1), .int (iI (s1 18)), .ref 18] _ _ _ _
          refine pm_e_sim pm_a149_266 rfl ?_
          refine pm_e_top (y := iI (s1 18 - 1)) (iI_sub _ _) ?_
          show pm_E _ _ _ 267 [(0, .ref 18), (1, .int (iI 1))] [.int (iI (s1 18 - 1)), .ref 18] _ _ _ _
          refine pm_i_put pm_a149_267 rfl (mh_get (j := 0) hA rfl) rfl (Nat.le_of_ble_eq_true rfl) (Or.inl rfl) (mw_18 hA _) ?_
          show pm_E _ _ _ 270 [(0, .ref 18), (1, .int (iI 1))] [] _ _ _ _
          refine pm_e_sim pm_a149_270 rfl ?_
          show pm_E _ _ _ 271 [(0, .ref 18), (1, .int (iI 1))] [.ref 18] _ _ _ _
          refine pm_e_sim pm_a149_271 rfl ?_
          show pm_E _ _ _ 272 [(0, .ref 18), (1, .int (iI 1))] [.ref 18, .ref 18] _ _ _ _
          refine pm_i_get pm_a149_272 rfl (mh_get (j := 0) hA rfl) rfl ?_
          show pm_E _ _ _ 275 [(0, .ref 18), (1, .int (iI 1))] [.int (iI (s1 21)), .ref 18] _ _ _ _
          refine pm_e_sim pm_a149_275 rfl ?_
          refine pm_e_top (y := iI 1) (by decide +kernel) ?_
          show pm_E _ _ _ 276 [(0, .ref 18), (1, .int (iI 1))] [.int (iI 1), .int (iI (s1 21)), .ref 18] _ _ _ _
          refine pm_e_sim pm_a149_276 rfl ?_
          refine pm_e_top (y := iI (s1 21 - 1)) (iI_sub _ _) ?_
          show pm_E _ _ _ 277 [(0, .ref 18), (1, .int (iI 1))] [.int (iI (s1 21 - 1)), .ref 18] _ _ _ _
          refine pm_i_put pm_a149_277 rfl (mh_get (j := 0) hA rfl) rfl (Nat.le_of_ble_eq_true rfl) (Or.inl rfl) (mw_21 hA _) ?_
          show pm_E _ _ _ 280 [(0, .ref 18), (1, .int (iI 1))] [] _ _ _ _
          refine pm_e_sim pm_a149_280 rfl ?_
          show pm_E _ _ _ 281 [(0, .ref 18), (1, .int (iI 1))] [.ref 18] _ _ _ _
          refine pm_i_callv (k := 18) (T2 := pm_mm151) pm_a149_281 rfl rfl rfl (mh_get (j := 0) hA rfl) ⟨Nat.le_of_ble_eq_true rfl, Nat.le_of_ble_eq_true rfl, rfl, by decide +kernel⟩ ?_
          show pm_E none _ _ 0 [(0, .ref 18)] [] _ _ _ _
          have n3 : a 3 = a0 3 := f3
          have n4 : (updS (updS s1 18 (s1 18 - 1)) 21 (s1 21 - 1)) 4 = s0 4 := by show s1 4 = s0 4; rw [gS1 4 (by omega) (by omega) (by omega)]; exact f4
          have n9 : (updS (updS s1 18 (s1 18 - 1)) 21 (s1 21 - 1)) 9 = (tok (a0 3) (s0 4) i).2.2.2 := by show s1 9 = _; rw [gS1 9 (by omega) (by omega) (by omega)]; exact e9
          have n13 : (updS (updS s1 18 (s1 18 - 1)) 21 (s1 21 - 1)) 13 = 0 := z13
          refine M_nextT hA (by rw [n3]; exact hb) n13 (by omega) (by omega) (by omega) (by omega) (fun s9 v9 g9 t9 b9 => ?_)
          rw [n3, n4, n9] at t9
          show pm_E _ _ _ 284 [(0, .ref 18), (1, .int (iI 1))] [] _ _ _ _
          refine pm_e_goto pm_a149_284 rfl ?_
          show pm_E _ _ _ 36 [(0, .ref 18), (1, .int (iI 1))] [] _ _ _ _
          have hyz : y.1 = 0 := by omega
          cases r2 with
          | nil => exact absurd rfl (hy1 (by omega))
          | cons z r3 =>
            have hps : pst (x :: r, ns, 0, 0) (tok (a0 3) (s0 4) i).1 (tok (a0 3) (s0 4) i).2.1 = some ((z.1, z.2.1, z.2.2 ++ ([-y.2.1] ++ y.2.2)) :: r3, ns2, 0, 0) := by
              unfold pst
              dsimp only
              rw [if_pos rfl, if_neg (by omega), if_neg (by omega), if_neg (by omega), if_neg (by omega), if_neg (by omega), if_pos ⟨by omega, by omega⟩]
              unfold pClose
              dsimp only
              rw [if_neg (by omega), hP]
              dsimp only
              rw [if_pos hyz]
            have hst := prN_step (b := a0 3) (n := s0 4) (by omega) hi0 hi1 (by omega) hps
            have fr9 : frP s0 a0 s9 a := frP_t hfr ⟨fun j q1 q2 q3 q4 q5 q6 q7 q8 q9 => by rw [g9 j q2 q3 q4 q5 q6]; simp [updS, q7, q9, gS1 j q7 q8 q9], fun j _ _ _ _ => rfl⟩
            rcases t9 with ⟨z1, z2⟩ | ⟨z1, z2, z3, z4, z5, z6⟩
            · exact M_readTerm_f hA k (by decide) fr9 b9 (by omega) ⟨by omega, by omega⟩ (by rw [hres, hst, z2.1, z2.2]; exact prN_bad z1)
            · have z96 : s9 6 = s 6 := by rw [g9 6 (by omega) (by omega) (by omega) (by omega) (by omega)]; exact e106
              refine ih _ (tok (a0 3) (s0 4) i).2.2.2 s9 v9 a nm (gd_pst hgd (fun _ => (tok_val hb).1) tok_let hps) rfl rfl fr9 b9 (by omega) (by omega) (by omega) (by rw [hres, hst]) ?_ ?_ ⟨z1, z2, z3, z4, z5, z6⟩ ⟨by have := bt.1; omega, fun _ _ _ => by have := bt.1; omega⟩
              · exact RL_popP hR1 hyz (by rw [g9 18 (by omega) (by omega) (by omega) (by omega) (by omega)]; rfl) (by rw [g9 20 (by omega) (by omega) (by omega) (by omega) (by omega)]; rfl) (by rw [g9 21 (by omega) (by omega) (by omega) (by omega) (by omega)]; rfl)
              · show RW (flat ((z.1, z.2.1, z.2.2 ++ ([-y.2.1] ++ y.2.2)) :: r3)) s9 a
                rw [flat_pop p2, hfp]
                exact ⟨by rw [z96]; exact hw.1, hw.2.1, hw.2.2⟩
      · skip
        show pm_E _ _ _ 231 [(0, .ref 18), (1, .int (iI 1))] [] _ _ _ _
        refine pm_e_sim pm_a149_231 rfl ?_
        refine pm_e_top (y := iI 1) (by decide +kernel) ?_
        show pm_E _ _ _ 232 [(0, .ref 18), (1, .int (iI 1))] [.int (iI 1)] _ _ _ _
        refine pm_e_goto pm_a149_232 rfl ?_
        show pm_E _ _ _ 236 [(0, .ref 18), (1, .int (iI 1))] [.int (iI 1)] _ _ _ _
        refine pm_e_sim pm_a149_236 rfl ?_
        show pm_E _ _ _ 237 [(0, .ref 18), (1, .int (iI 1))] [.int (iI 1), .int (iI 1)] _ _ _ _
        refine pm_e_icf pm_a149_237 rfl (by decide +kernel) ?_
        show pm_E _ _ _ 240 [(0, .ref 18), (1, .int (iI 1))] [] _ _ _ _
        refine pm_e_sim pm_a149_240 rfl ?_
        show pm_E _ _ _ 241 [(0, .ref 18), (1, .int (iI 1))] [.ref 18] _ _ _ _
        refine pm_e_sim pm_a149_241 rfl ?_
        refine pm_e_top (y := iI 2) (by decide +kernel) ?_
        show pm_E _ _ _ 242 [(0, .ref 18), (1, .int (iI 1))] [.int (iI 2), .ref 18] _ _ _ _
        refine pm_e_sim pm_a149_242 rfl ?_
        show pm_E _ _ _ 243 [(0, .ref 18), (1, .int (iI 1))] [.ref 18, .int (iI 2), .ref 18] _ _ _ _
        refine pm_i_get pm_a149_243 rfl (mh_get (j := 0) hA rfl) rfl ?_
        show pm_E _ _ _ 246 [(0, .ref 18), (1, .int (iI 1))] [.int (iI (s1 10)), .int (iI 2), .ref 18] _ _ _ _
        refine pm_i_callv (k := 18) (T2 := pm_mm153) pm_a149_246 rfl rfl rfl (mh_get (j := 0) hA rfl) ⟨Nat.le_of_ble_eq_true rfl, Nat.le_of_ble_eq_true rfl, rfl, by decide +kernel⟩ ?_
        show pm_E none _ _ 0 [(0, .ref 18), (1, .int (iI 2)), (2, .int (iI (s1 10)))] [] _ _ _ _
        refine M_fails hA (by rw [z13]; decide) (fun _ => ?_) (fun z => absurd z13 z)
        show pm_E _ _ _ 249 [(0, .ref 18), (1, .int (iI 1))] [] _ _ _ _
        refine pm_e_sim pm_a149_249 rfl ?_
        show pm_E _ _ _ 250 [(0, .ref 18), (1, .int (iI 1))] [.ref 18] _ _ _ _
        refine pm_i_get pm_a149_250 rfl (mh_get (j := 0) hA rfl) rfl ?_
        show pm_E _ _ _ 253 [(0, .ref 18), (1, .int (iI 1))] [.int (iI (2))] _ _ _ _
        refine pm_i_ne (t := 36) pm_a149_253 rfl ⟨by omega, by omega⟩ (fun h_9 => ?_) (fun h_9 => ?_)
        · skip
          show pm_E _ _ _ 36 [(0, .ref 18), (1, .int (iI 1))] [] _ _ _ _
          refine M_readTerm_f hA k (by decide) (frP_t hfr ⟨fun j q1 q2 q3 q4 q5 q6 q7 q8 q9 => by simp [updS, q5, q6, gS1 j q7 q8 q9], fun j _ _ _ _ => rfl⟩) hv (by show (2 : Int) ≠ 0; decide) (by show fl 2; decide) ?_
          show RES = .inl ((2 : Int), s1 10)
          have hr2 := hy0 (by omega)
          subst hr2
          rw [hres, gS1 10 (by omega) (by omega) (by omega), e10]
          refine prN_nc (by omega) ?_ (pft_o rfl (by omega) (by omega))
          unfold pst
          dsimp only
          rw [if_pos rfl, if_neg (by omega), if_neg (by omega), if_neg (by omega), if_neg (by omega), if_neg (by omega), if_pos ⟨by omega, by omega⟩]
          unfold pClose
          dsimp only
          rw [if_neg (by omega), hP]
        · skip
          exfalso; omega
