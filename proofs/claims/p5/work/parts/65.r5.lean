/-! THE CLASS: Reader: what a token does -/
def fl4 (b : Int → Int) (n : Int) (t : List Int) : List Int := (t.filter (fun v => decide (v ≠ -1))).map (nv b n)
theorem fl4_m {b : Int → Int} {n u : Int} {t : List Int} (h : u = -1) : fl4 b n (u :: t) = fl4 b n t := by
  unfold fl4
  rw [List.filter_cons_of_neg (by simp [h])]
theorem fl4_n {b : Int → Int} {n u : Int} {t : List Int} (h : u ≠ -1) : fl4 b n (u :: t) = nv b n u :: fl4 b n t := by
  unfold fl4
  rw [List.filter_cons_of_pos (by simp [h])]
  rfl
theorem in_upd {g : Int → Int} {m v : Int} (h : ∀ j, in32 (g j)) (hv : in32 v) (j : Int) : in32 (updI g m v j) := by
  unfold updI
  split
  · exact hv
  · exact h j
def rdF (s : Nat → Int) (a : Nat → Int → Int) (s' : Nat → Int) (a' : Nat → Int → Int) : Prop := (∀ j, j ≠ 5 → j ≠ 6 → j ≠ 7 → j ≠ 8 → j ≠ 12 → j ≠ 13 → s' j = s j) ∧ (∀ j, j ≠ 3 → j ≠ 4 → j ≠ 5 → a' j = a j)
def TKP (fc : Int) (o : Option PS) (b : Int → Int) (n e : Int) (s : Nat → Int) (a : Nat → Int → Int) (s' : Nat → Int) (a' : Nat → Int → Int) : Prop := rdF s a s' a' ∧ ((1 ≤ s' 12 ∧ s' 12 ≤ 5 ∧ o = none ∧ s' 12 = fc ∧ s' 13 = s 10) ∨ ((s' 12 = 0 ∧ s' 13 = s 13) ∧ (∀ i j, in32 (a' i j)) ∧ ∃ S' ps', o = some S' ∧ CR b n S' ps' e s' a'))
theorem in_rows {a a' : Nat → Int → Int} (h : ∀ i j, in32 (a i j)) (h3 : ∀ j, in32 (a' 3 j)) (h4 : ∀ j, in32 (a' 4 j)) (h5 : ∀ j, in32 (a' 5 j)) (q : ∀ j, j ≠ 3 → j ≠ 4 → j ≠ 5 → a' j = a j) (i : Nat) (j : Int) : in32 (a' i j) := by
  by_cases c3 : i = 3
  · subst c3; exact h3 j
  by_cases c4 : i = 4
  · subst c4; exact h4 j
  by_cases c5 : i = 5
  · subst c5; exact h5 j
  rw [q i c3 c4 c5]
  exact h i j
set_option maxHeartbeats 4000000 in
set_option maxRecDepth 100000 in
theorem C_r_var_l {d n : Nat} {kd pl : Nat → Nat} {s : Nat → Int} {a : Nat → Int → Int} {c : Nat → cdt} {M : List va_E} {Q : Option Value → List va_E → Nat → Nat → Prop} (hW : wf n kd pl) (h4 : 0 ≤ s 4) (h4' : s 4 ≤ 600) (hb : ∀ j, 0 ≤ a 0 j ∧ a 0 j ≤ 255) (hin : ∀ i j, in32 (a i j)) (h5 : 0 ≤ s 5) (h5' : s 5 < 601) (h6 : 0 ≤ s 6) (h6' : s 6 < 601) (hq : nmP (a 0) (s 4) (s 10)) (h11 : s 11 = nEnd (a 0) (s 4) (s 10)) : ∀ (f : Nat) (t : List Int) (m j : Int), j = (t.length : Int) - 1 → rg (a 4) t.length 0 = t.reverse → t.length ≤ 40 → 0 ≤ m → m ≤ 40 - t.length → (∀ v ∈ t, v ≠ -1 → nmP (a 0) (s 4) v) → (pfind (nv (a 0) (s 4) (s 10)) (fl4 (a 0) (s 4) t) m = none → ∀ s', (s' 12 = 3 ∧ s' 13 = s 10) → (∀ i, i ≠ 12 → i ≠ 13 → s' i = s i) → Q none (ch n kd pl s' a c M) 0 0) → (∀ q, pfind (nv (a 0) (s 4) (s 10)) (fl4 (a 0) (s 4) t) m = some q → 0 ≤ q → q ≤ 40 → ∀ s' a', s' 5 = s 5 + 1 → (∀ i, i ≠ 5 → s' i = s i) → a' 3 = updI (updI (a 3) (s 6) (a 3 (s 6) - 1)) (s 5) (10 + q) → (∀ i, i ≠ 3 → a' i = a i) → Q none (ch n kd pl s' a' c M) 0 0) → (t.length : Int) < (f : Int) → pm_E none (d + 2) pm_mm29 9 [(0, .ref (pl 9)), (1, .int (iI m)), (2, .int (iI j))] [] (ch n kd pl s a c M) 0 0 Q := by
  intro f
  induction f with
  | zero =>
    intro t m j hj hrg hl40 hm0 hm1 hnm kf k hf
    exfalso; omega
  | succ f ih =>
    intro t m j hj hrg hl40 hm0 hm1 hnm kf k hf
    obtain ⟨_, _, n3, n4, _⟩ := nm_facts h4' hq
    obtain ⟨n0, n1, n2⟩ := id hq
    refine pm_e_sim pm_a29_9 rfl ?_
    show pm_E _ _ _ 10 [(0, .ref (pl 9)), (1, .int (iI m)), (2, .int (iI j))] [.int (iI j)] _ _ _ _
    refine pm_i_lt (t := 63) pm_a29_10 rfl ⟨by omega, by omega⟩ (fun h_1 => ?_) (fun h_1 => ?_)
    · skip
      show pm_E _ _ _ 63 [(0, .ref (pl 9)), (1, .int (iI m)), (2, .int (iI j))] [] _ _ _ _
      refine pm_e_sim pm_a29_63 rfl ?_
      show pm_E _ _ _ 64 [(0, .ref (pl 9)), (1, .int (iI m)), (2, .int (iI j))] [.ref (pl 9)] _ _ _ _
      refine pm_e_sim pm_a29_64 rfl ?_
      refine pm_e_top (y := iI 3) (by decide +kernel) ?_
      show pm_E _ _ _ 65 [(0, .ref (pl 9)), (1, .int (iI m)), (2, .int (iI j))] [.int (iI 3), .ref (pl 9)] _ _ _ _
      refine pm_i_callv (k := (pl 9)) (T2 := pm_mm22) pm_a29_65 rfl rfl rfl (cg_9 hW) ⟨Nat.le_of_ble_eq_true rfl, Nat.le_of_ble_eq_true rfl, rfl, by decide +kernel⟩ ?_
      show pm_E none _ _ 0 [(0, .ref (pl 9)), (1, .int (iI 3))] [] _ _ _ _
      refine C_r_fail hW (fun s_2 f_2 g_2 => ?_)
      show pm_E _ _ _ 68 [(0, .ref (pl 9)), (1, .int (iI m)), (2, .int (iI j))] [] _ _ _ _
      refine pm_e_ret pm_a29_68 rfl rfl rfl rfl rfl rfl rfl rfl ?_
      have et : t = [] := by
        cases t with
        | nil => rfl
        | cons u t' => exfalso; have hl : (u :: t').length = t'.length + 1 := rfl; omega
      subst et
      exact kf rfl s_2 f_2 g_2
    · skip
      show pm_E _ _ _ 13 [(0, .ref (pl 9)), (1, .int (iI m)), (2, .int (iI j))] [] _ _ _ _
      refine pm_e_sim pm_a29_13 rfl ?_
      show pm_E _ _ _ 14 [(0, .ref (pl 9)), (1, .int (iI m)), (2, .int (iI j))] [.int (iI j)] _ _ _ _
      refine pm_e_sim pm_a29_14 rfl ?_
      show pm_E _ _ _ 15 [(0, .ref (pl 9)), (1, .int (iI m)), (2, .int (iI j))] [.ref (pl 9), .int (iI j)] _ _ _ _
      refine pm_i_get pm_a29_15 rfl (cg_9 hW) rfl ?_
      show pm_E _ _ _ 18 [(0, .ref (pl 9)), (1, .int (iI m)), (2, .int (iI j))] [.ref (pl 11), .int (iI j)] _ _ _ _
      refine pm_i_aln pm_a29_18 (cg_11 hW) ?_
      show pm_E _ _ _ 19 [(0, .ref (pl 9)), (1, .int (iI m)), (2, .int (iI j))] [.int (iI 40), .int (iI j)] _ _ _ _
      refine pm_c_ge (t := 57) pm_a29_19 rfl ⟨by omega, by omega⟩ ⟨by omega, by omega⟩ (fun h_3 => ?_) (fun h_3 => ?_)
      · skip
        exfalso; omega
      · skip
        show pm_E _ _ _ 22 [(0, .ref (pl 9)), (1, .int (iI m)), (2, .int (iI j))] [] _ _ _ _
        refine pm_e_sim pm_a29_22 rfl ?_
        show pm_E _ _ _ 23 [(0, .ref (pl 9)), (1, .int (iI m)), (2, .int (iI j))] [.ref (pl 9)] _ _ _ _
        refine pm_i_get pm_a29_23 rfl (cg_9 hW) rfl ?_
        show pm_E _ _ _ 26 [(0, .ref (pl 9)), (1, .int (iI m)), (2, .int (iI j))] [.ref (pl 11)] _ _ _ _
        refine pm_e_sim pm_a29_26 rfl ?_
        show pm_E _ _ _ 27 [(0, .ref (pl 9)), (1, .int (iI m)), (2, .int (iI j))] [.int (iI j), .ref (pl 11)] _ _ _ _
        refine pm_i_ald pm_a29_27 (cg_11 hW) (by omega) (by omega) ⟨by omega, by omega⟩ ?_
        obtain ⟨u, t', rfl⟩ : ∃ u t', t = u :: t' := by
          cases t with
          | nil => exfalso; have z9 : j = ((0 : Nat) : Int) - 1 := hj; omega
          | cons u t' => exact ⟨u, t', rfl⟩
        have hl : (u :: t').length = t'.length + 1 := rfl
        have hu : a 4 j = u := by
          have h9 := rg_get (g := a 4) (l := (u :: t').reverse) (u := t'.reverse) (v := []) (x := u) (by rw [List.length_reverse]; exact hrg) (by simp)
          rw [List.length_reverse] at h9
          rw [show j = (t'.length : Int) by omega]
          exact h9
        obtain ⟨_, _⟩ := hin 4 (j)
        show pm_E _ _ _ 28 [(0, .ref (pl 9)), (1, .int (iI m)), (2, .int (iI j))] [.int (iI ((a 4) (j)))] _ _ _ _
        refine pm_e_sim pm_a29_28 rfl ?_
        refine pm_e_top (y := iI (-1)) (by decide +kernel) ?_
        show pm_E _ _ _ 29 [(0, .ref (pl 9)), (1, .int (iI m)), (2, .int (iI j))] [.int (iI (-1)), .int (iI ((a 4) (j)))] _ _ _ _
        refine pm_c_eq (t := 57) pm_a29_29 rfl ⟨by omega, by omega⟩ ⟨by omega, by omega⟩ (fun h_4 => ?_) (fun h_4 => ?_)
        · skip
          show pm_E _ _ _ 57 [(0, .ref (pl 9)), (1, .int (iI m)), (2, .int (iI j))] [] _ _ _ _
          refine pm_e_inc (y := iI (j + (-1))) pm_a29_57 rfl (iI_add _ _) (by decide +kernel) rfl ?_
          show pm_E _ _ _ 60 [(0, .ref (pl 9)), (1, .int (iI m)), (2, .int (iI (j + (-1))))] [] _ _ _ _
          refine pm_e_goto pm_a29_60 rfl ?_
          show pm_E _ _ _ 9 [(0, .ref (pl 9)), (1, .int (iI m)), (2, .int (iI (j + (-1))))] [] _ _ _ _
          have E : pfind (nv (a 0) (s 4) (s 10)) (fl4 (a 0) (s 4) (u :: t')) m = pfind (nv (a 0) (s 4) (s 10)) (fl4 (a 0) (s 4) t') (m) := by rw [fl4_m (by omega)]
          refine ih t' m (j + -1) (by omega) ?_ (by omega) (by omega) (by omega) (fun v hv => hnm v (List.mem_cons_of_mem _ hv)) (fun z => kf (E.trans z)) (fun q z => k q (E.trans z)) (by omega)
          have h9 : rg (a 4) (t'.length + 1) 0 = t'.reverse ++ [u] := by rw [← List.reverse_cons]; exact hrg
          rw [rg_snoc] at h9
          exact (List.append_inj h9 (by rw [rg_len, List.length_reverse])).1
        · skip
          show pm_E _ _ _ 32 [(0, .ref (pl 9)), (1, .int (iI m)), (2, .int (iI j))] [] _ _ _ _
          refine pm_e_sim pm_a29_32 rfl ?_
          show pm_E _ _ _ 33 [(0, .ref (pl 9)), (1, .int (iI m)), (2, .int (iI j))] [.ref (pl 9)] _ _ _ _
          refine pm_e_sim pm_a29_33 rfl ?_
          show pm_E _ _ _ 34 [(0, .ref (pl 9)), (1, .int (iI m)), (2, .int (iI j))] [.ref (pl 9), .ref (pl 9)] _ _ _ _
          refine pm_i_get pm_a29_34 rfl (cg_9 hW) rfl ?_
          show pm_E _ _ _ 37 [(0, .ref (pl 9)), (1, .int (iI m)), (2, .int (iI j))] [.ref (pl 11), .ref (pl 9)] _ _ _ _
          refine pm_e_sim pm_a29_37 rfl ?_
          show pm_E _ _ _ 38 [(0, .ref (pl 9)), (1, .int (iI m)), (2, .int (iI j))] [.int (iI j), .ref (pl 11), .ref (pl 9)] _ _ _ _
          refine pm_i_ald pm_a29_38 (cg_11 hW) (by omega) (by omega) ⟨by omega, by omega⟩ ?_
          obtain ⟨_, _⟩ := hin 4 (j)
          show pm_E _ _ _ 39 [(0, .ref (pl 9)), (1, .int (iI m)), (2, .int (iI j))] [.int (iI ((a 4) (j))), .ref (pl 9)] _ _ _ _
          refine pm_i_callv (k := (pl 9)) (T2 := pm_mm30) pm_a29_39 rfl rfl rfl (cg_9 hW) ⟨Nat.le_of_ble_eq_true rfl, Nat.le_of_ble_eq_true rfl, rfl, by decide +kernel⟩ ?_
          show pm_E none _ _ 0 [(0, .ref (pl 9)), (1, .int (iI ((a 4) (j))))] [] _ _ _ _
          have hpu := hnm u List.mem_cons_self (by omega)
          obtain ⟨p0, p1, p2⟩ := id hpu
          refine C_r_nameAt hW h4 h4' hb (by omega) (by omega) (by omega) (by omega) (by omega) (fun c9 => ?_) (fun c9 => ?_)
          · skip
            have c8 : nv (a 0) (s 4) u = (nv (a 0) (s 4) (s 10)) := (nm_eq h4' hpu hq).mpr (by rw [← h11, ← hu]; exact c9)
            show pm_E _ _ _ 42 [(0, .ref (pl 9)), (1, .int (iI m)), (2, .int (iI j))] [.int (iI 1)] _ _ _ _
            refine pm_e_iff pm_a29_42 rfl (by decide +kernel) ?_
            show pm_E _ _ _ 45 [(0, .ref (pl 9)), (1, .int (iI m)), (2, .int (iI j))] [] _ _ _ _
            refine pm_e_sim pm_a29_45 rfl ?_
            show pm_E _ _ _ 46 [(0, .ref (pl 9)), (1, .int (iI m)), (2, .int (iI j))] [.ref (pl 9)] _ _ _ _
            refine pm_e_sim pm_a29_46 rfl ?_
            refine pm_e_top (y := iI 10) (by decide +kernel) ?_
            show pm_E _ _ _ 48 [(0, .ref (pl 9)), (1, .int (iI m)), (2, .int (iI j))] [.int (iI 10), .ref (pl 9)] _ _ _ _
            refine pm_e_sim pm_a29_48 rfl ?_
            show pm_E _ _ _ 49 [(0, .ref (pl 9)), (1, .int (iI m)), (2, .int (iI j))] [.int (iI m), .int (iI 10), .ref (pl 9)] _ _ _ _
            refine pm_e_sim pm_a29_49 rfl ?_
            refine pm_e_top (y := iI (10 + m)) (iI_add _ _) ?_
            show pm_E _ _ _ 50 [(0, .ref (pl 9)), (1, .int (iI m)), (2, .int (iI j))] [.int (iI (10 + m)), .ref (pl 9)] _ _ _ _
            refine pm_i_callv (k := (pl 9)) (T2 := pm_mm31) pm_a29_50 rfl rfl rfl (cg_9 hW) ⟨Nat.le_of_ble_eq_true rfl, Nat.le_of_ble_eq_true rfl, rfl, by decide +kernel⟩ ?_
            show pm_E none _ _ 0 [(0, .ref (pl 9)), (1, .int (iI (10 + m)))] [] _ _ _ _
            refine C_r_takePart hW (by omega) (by omega) (by omega) (by omega) (fun s_5 a_5 f_5 g_5 p_5 q_5 => ?_)
            show pm_E _ _ _ 53 [(0, .ref (pl 9)), (1, .int (iI m)), (2, .int (iI j))] [] _ _ _ _
            refine pm_e_ret pm_a29_53 rfl rfl rfl rfl rfl rfl rfl rfl ?_
            exact k m (by rw [fl4_n (by omega)]; exact if_pos c8) (by omega) (by omega) s_5 a_5 f_5 g_5 p_5 q_5
          · skip
            have c8 : nv (a 0) (s 4) u ≠ (nv (a 0) (s 4) (s 10)) := fun z => c9 (by have z9 := (nm_eq h4' hpu hq).mp z; rw [← h11, ← hu] at z9; exact z9)
            show pm_E _ _ _ 42 [(0, .ref (pl 9)), (1, .int (iI m)), (2, .int (iI j))] [.int (iI 0)] _ _ _ _
            refine pm_e_ift pm_a29_42 rfl (by decide +kernel) ?_
            show pm_E _ _ _ 54 [(0, .ref (pl 9)), (1, .int (iI m)), (2, .int (iI j))] [] _ _ _ _
            refine pm_e_inc (y := iI (m + 1)) pm_a29_54 rfl (iI_add _ _) (by decide +kernel) rfl ?_
            show pm_E _ _ _ 57 [(0, .ref (pl 9)), (1, .int (iI (m + 1))), (2, .int (iI j))] [] _ _ _ _
            refine pm_e_inc (y := iI (j + (-1))) pm_a29_57 rfl (iI_add _ _) (by decide +kernel) rfl ?_
            show pm_E _ _ _ 60 [(0, .ref (pl 9)), (1, .int (iI (m + 1))), (2, .int (iI (j + (-1))))] [] _ _ _ _
            refine pm_e_goto pm_a29_60 rfl ?_
            show pm_E _ _ _ 9 [(0, .ref (pl 9)), (1, .int (iI (m + 1))), (2, .int (iI (j + (-1))))] [] _ _ _ _
            have E : pfind (nv (a 0) (s 4) (s 10)) (fl4 (a 0) (s 4) (u :: t')) m = pfind (nv (a 0) (s 4) (s 10)) (fl4 (a 0) (s 4) t') (m + 1) := by rw [fl4_n (by omega)]; exact if_neg c8
            refine ih t' (m + 1) (j + -1) (by omega) ?_ (by omega) (by omega) (by omega) (fun v hv => hnm v (List.mem_cons_of_mem _ hv)) (fun z => kf (E.trans z)) (fun q z => k q (E.trans z)) (by omega)
            have h9 : rg (a 4) (t'.length + 1) 0 = t'.reverse ++ [u] := by rw [← List.reverse_cons]; exact hrg
            rw [rg_snoc] at h9
            exact (List.append_inj h9 (by rw [rg_len, List.length_reverse])).1
set_option maxHeartbeats 4000000 in
set_option maxRecDepth 100000 in
theorem C_r_takeVariable {d n : Nat} {kd pl : Nat → Nat} {s : Nat → Int} {a : Nat → Int → Int} {c : Nat → cdt} {M : List va_E} {Q : Option Value → List va_E → Nat → Nat → Prop} {S : PS} {ps : List Int} {i : Int} (hW : wf n kd pl) (h4 : 0 ≤ s 4) (h4' : s 4 ≤ 600) (hb : ∀ j, 0 ≤ a 0 j ∧ a 0 j ≤ 255) (hin : ∀ i j, in32 (a i j)) (hCR : CR (a 0) (s 4) S ps i s a) (h12 : s 12 = 0) (hi : i < s 11) (hi0 : 0 ≤ i) (hs4 : s 11 ≤ s 4) (hq : nmP (a 0) (s 4) (s 10)) (h11 : s 11 = nEnd (a 0) (s 4) (s 10)) (h8 : S.2.2.1 = 0) (k : ∀ s' a', TKP (pft S 1 (nv (a 0) (s 4) (s 10))) (pst S 1 (nv (a 0) (s 4) (s 10))) (a 0) (s 4) (s 11) s a s' a' → Q none (ch n kd pl s' a' c M) 0 0) : pm_E none (d + 2) pm_mm29 0 [(0, .ref (pl 9))] [] (ch n kd pl s a c M) 0 0 Q := by
  obtain ⟨y9, r9, hL9, he9, r69, r39, rv9, z1, z2, z3⟩ := CR_row hCR
  obtain ⟨_, _⟩ := hin 3 (s 6)
  refine pm_e_sim pm_a29_0 rfl ?_
  refine pm_e_top (y := iI 0) (by decide +kernel) ?_
  show pm_E _ _ _ 1 [(0, .ref (pl 9))] [.int (iI 0)] _ _ _ _
  refine pm_e_sim pm_a29_1 rfl ?_
  show pm_E _ _ _ 2 [(0, .ref (pl 9)), (1, .int (iI 0))] [] _ _ _ _
  refine pm_e_sim pm_a29_2 rfl ?_
  show pm_E _ _ _ 3 [(0, .ref (pl 9)), (1, .int (iI 0))] [.ref (pl 9)] _ _ _ _
  refine pm_i_get pm_a29_3 rfl (cg_9 hW) rfl ?_
  show pm_E _ _ _ 6 [(0, .ref (pl 9)), (1, .int (iI 0))] [.int (iI (s 7))] _ _ _ _
  refine pm_e_sim pm_a29_6 rfl ?_
  refine pm_e_top (y := iI 1) (by decide +kernel) ?_
  show pm_E _ _ _ 7 [(0, .ref (pl 9)), (1, .int (iI 0))] [.int (iI 1), .int (iI (s 7))] _ _ _ _
  refine pm_e_sim pm_a29_7 rfl ?_
  refine pm_e_top (y := iI (s 7 - 1)) (iI_sub _ _) ?_
  show pm_E _ _ _ 8 [(0, .ref (pl 9)), (1, .int (iI 0))] [.int (iI (s 7 - 1))] _ _ _ _
  refine pm_e_sim pm_a29_8 rfl ?_
  show pm_E _ _ _ 9 [(0, .ref (pl 9)), (1, .int (iI 0)), (2, .int (iI (s 7 - 1)))] [] _ _ _ _
  obtain ⟨⟨c1, c2⟩, c3, ⟨c4, c5⟩, c6, c7, ⟨c8, c9⟩, hw, ⟨k0, k1, k2, k3, k4⟩, hl, hv, h40⟩ := id hCR
  have hc := k1 h8
  rw [hc] at c4 c5
  have c4' : s 7 = ((stk S.1 ps).length : Int) := c4
  have efl : fl4 (a 0) (s 4) (stk S.1 ps) = S.2.1 := by unfold fl4; rw [stk_nam S.1 ps (fun p hp => (c9 p hp).1), c8]
  have epst : pst S 1 (nv (a 0) (s 4) (s 10)) = (pfind (nv (a 0) (s 4) (s 10)) S.2.1 0).map (fun j => (pAdd (pPart S.1) (10 + j), S.2.1, 0, 0)) := by unfold pst; rw [if_pos h8, if_pos rfl]
  refine C_r_var_l hW h4 h4' hb hin (by omega) (by omega) (by omega) (by omega) hq h11 42 (stk S.1 ps) 0 (s 7 - 1) (by omega) c5 (by omega) (by omega) (by omega) (fun v hv1 hv2 => ?_) (fun z s1 f1 g1 => ?_) (fun q z q0 q1 s1 a1 f1 g1 p1 o1 => ?_) (by omega)
  · have h9 : v ∈ (stk S.1 ps).filter (fun v => decide (v ≠ -1)) := List.mem_filter.mpr ⟨hv1, by simp [hv2]⟩
    rw [stk_nam S.1 ps (fun p hp => (c9 p hp).1)] at h9
    exact c9 v h9
  · rw [efl] at z
    exact k s1 a ⟨⟨fun j _ _ _ _ n12 n13 => g1 j n12 n13, fun _ _ _ _ => rfl⟩, Or.inl ⟨by omega, by omega, by rw [epst, z]; rfl, by rw [f1.1, pft_1 h8 rfl], f1.2⟩⟩
  · rw [efl] at z
    refine k s1 a1 ⟨⟨fun j n5 _ _ _ _ _ => g1 j n5, fun j n3 _ _ => o1 j n3⟩, Or.inr ⟨⟨by rw [g1 12 (by decide)]; exact h12, g1 13 (by decide)⟩, ?_, _, ps, by rw [epst, z]; rfl, CR_take hCR h8 hi ⟨by omega, by omega⟩ f1 g1 p1 o1⟩⟩
    exact in_rows hin (fun j => by rw [p1]; exact in_upd (in_upd (hin 3) ⟨by omega, by omega⟩) ⟨by omega, by omega⟩ j) (fun j => by rw [o1 4 (by decide)]; exact hin 4 j) (fun j => by rw [o1 5 (by decide)]; exact hin 5 j) (fun j n3 _ _ => o1 j n3)
