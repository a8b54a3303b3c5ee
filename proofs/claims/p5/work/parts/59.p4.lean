/-! THE REFERENCE: readName -/
theorem nmR_at {nm : Nat → Int64} : ∀ {ns : List Int} (j : Nat), nmR nm ns → j < ns.length → ∃ x r, ns.drop j = x :: r ∧ nm (ns.length - 1 - j) = lI x ∧ x ∈ ns
  | [], j, _, h => by simp at h
  | x :: r, j, h, hj => by
    cases j with
    | zero => exact ⟨x, r, rfl, by rw [show (x :: r).length - 1 - 0 = r.length by simp]; exact h.1, List.mem_cons_self⟩
    | succ j =>
      obtain ⟨y, r', h1, h2, h3⟩ := nmR_at j h.2 (by simp at hj; omega)
      refine ⟨y, r', h1, ?_, List.mem_cons_of_mem _ h3⟩
      rw [show (x :: r).length - 1 - (j + 1) = r.length - 1 - j by simp; omega]
      exact h2
theorem pfind_drop {v : Int} : ∀ {ns : List Int} {k : Int} (j : Nat), (∀ i : Nat, i < j → ∀ x r, ns.drop i = x :: r → x ≠ v) → j ≤ ns.length → pfind v ns k = pfind v (ns.drop j) (k + j)
  | ns, k, 0, _, _ => by rw [List.drop_zero, show k + ((0 : Nat) : Int) = k by omega]
  | [], k, j + 1, _, h => by simp at h
  | x :: r, k, j + 1, h, hj => by
    have h0 := h 0 (by omega) x r rfl
    show (if x = v then some k else pfind v r (k + 1)) = pfind v (r.drop j) _
    rw [if_neg h0, pfind_drop j (fun i hi y s hy => h (i + 1) (by omega) y s hy) (by simp at hj; omega), show k + 1 + (j : Int) = k + ((j + 1 : Nat) : Int) by omega]
set_option maxHeartbeats 4000000 in
set_option maxRecDepth 100000 in
theorem M_readName_l {d : Nat} {A B : List va_E} {v : Int} {nm : Nat → Int64} {Q : Option Value → List va_E → Nat → Nat → Prop} {s : Nat → Int} {a : Nat → Int → Int} {ns : List Int} (hA : A.length = 18) (hv : 0 ≤ v ∧ v ≤ 282429536481) (hnm : nmR nm ns) (hns : ∀ x ∈ ns, 0 ≤ x ∧ x ≤ 282429536481) (hl : ns.length ≤ 40) (k0 : pfind v ns 0 = none → pm_E none (d + 2) pm_mm155 31 [(0, .ref 18), (1, .int (iI (-1)))] [] (mh A s (lI v) a nm B) 0 0 Q) (k1 : ∀ j : Nat, j < ns.length → pfind v ns 0 = some (j : Int) → pm_E none (d + 2) pm_mm155 31 [(0, .ref 18), (1, .int (iI ((ns.length : Int) - 1 - (j : Int))))] [] (mh A s (lI v) a nm B) 0 0 Q) : ∀ (f : Nat) (q : Int) (j : Nat), q = (ns.length : Int) - 1 - (j : Int) → j ≤ ns.length → (∀ i : Nat, i < j → ∀ x r, ns.drop i = x :: r → x ≠ v) → q + 1 < (f : Int) → pm_E none (d + 2) pm_mm155 7 [(0, .ref 18), (1, .int (iI q))] [] (mh A s (lI v) a nm B) 0 0 Q := by
  intro f
  induction f with
  | zero =>
    intro q j hq hj0 hj hf
    exfalso; omega
  | succ f ih =>
    intro q j hq hj0 hj hf
    refine pm_e_sim pm_a155_7 rfl ?_
    show pm_E _ _ _ 8 [(0, .ref 18), (1, .int (iI q))] [.int (iI q)] _ _ _ _
    refine pm_i_lt (t := 31) pm_a155_8 rfl ⟨by omega, by omega⟩ (fun h_1 => ?_) (fun h_1 => ?_)
    · skip
      show pm_E _ _ _ 31 [(0, .ref 18), (1, .int (iI q))] [] _ _ _ _
      first
      | (have e0 : j = ns.length := by omega
         have hp := pfind_drop (k := 0) j hj hj0
         rw [e0, List.drop_length] at hp
         have hq1 : q = -1 := by omega
         subst hq1
         exact k0 hp)
      | (have hp := pfind_drop (k := 0) j hj hj0
         rw [hx1] at hp
         have e1 : pfind v (x :: r) (0 + (j : Int)) = some (j : Int) := by
           show (if x = v then some (0 + (j : Int)) else _) = _
           rw [if_pos (by omega), show (0 : Int) + (j : Int) = j by omega]
         rw [e1] at hp
         subst hq
         exact k1 j (by omega) hp)
    · skip
      show pm_E _ _ _ 11 [(0, .ref 18), (1, .int (iI q))] [] _ _ _ _
      refine pm_e_sim pm_a155_11 rfl ?_
      show pm_E _ _ _ 12 [(0, .ref 18), (1, .int (iI q))] [.ref 18] _ _ _ _
      refine pm_i_get pm_a155_12 rfl (mh_get (j := 0) hA rfl) rfl ?_
      show pm_E _ _ _ 15 [(0, .ref 18), (1, .int (iI q))] [.ref 28] _ _ _ _
      refine pm_e_sim pm_a155_15 rfl ?_
      show pm_E _ _ _ 16 [(0, .ref 18), (1, .int (iI q))] [.int (iI q), .ref 28] _ _ _ _
      obtain ⟨x, r, hx1, hx2, hx3⟩ := nmR_at j hnm (by omega)
      have hx4 := hns x hx3
      refine pm_l_ald pm_a155_16 (mh_get (j := 10) hA rfl) (by omega) (by omega) ⟨by omega, by omega⟩ ?_
      refine pm_l_top (y := lI x) (by rw [show q.toNat = ns.length - 1 - j by omega]; exact hx2) ?_
      show pm_E _ _ _ 17 [(0, .ref 18), (1, .int (iI q))] [.long (lI x)] _ _ _ _
      refine pm_e_sim pm_a155_17 rfl ?_
      show pm_E _ _ _ 18 [(0, .ref 18), (1, .int (iI q))] [.ref 18, .long (lI x)] _ _ _ _
      refine pm_i_get pm_a155_18 rfl (mh_get (j := 0) hA rfl) rfl ?_
      show pm_E _ _ _ 21 [(0, .ref 18), (1, .int (iI q))] [.long (lI v), .long (lI x)] _ _ _ _
      refine pm_l_cmp pm_a155_21 ⟨by omega, by omega⟩ ⟨by omega, by omega⟩ (fun h_2 => ?_) (fun h_2 => ?_) (fun h_2 => ?_)
      · skip
        show pm_E _ _ _ 22 [(0, .ref 18), (1, .int (iI q))] [.int (iI (-1))] _ _ _ _
        refine pm_e_iff pm_a155_22 rfl (by decide +kernel) ?_
        show pm_E _ _ _ 25 [(0, .ref 18), (1, .int (iI q))] [] _ _ _ _
        refine pm_e_inc (y := iI (q + (-1))) pm_a155_25 rfl (iI_add _ _) (by decide +kernel) rfl ?_
        show pm_E _ _ _ 28 [(0, .ref 18), (1, .int (iI (q + (-1))))] [] _ _ _ _
        refine pm_e_goto pm_a155_28 rfl ?_
        show pm_E _ _ _ 7 [(0, .ref 18), (1, .int (iI (q + (-1))))] [] _ _ _ _
        exact ih (q + -1) (j + 1) (by omega) (by omega) (fun i hi y s hy => if e : i = j then (by subst e; rw [hx1] at hy; cases hy; omega) else hj i (by omega) y s hy) (by omega)
      · skip
        show pm_E _ _ _ 22 [(0, .ref 18), (1, .int (iI q))] [.int (iI 0)] _ _ _ _
        refine pm_e_ift pm_a155_22 rfl (by decide +kernel) ?_
        show pm_E _ _ _ 31 [(0, .ref 18), (1, .int (iI q))] [] _ _ _ _
        first
        | (have e0 : j = ns.length := by omega
           have hp := pfind_drop (k := 0) j hj hj0
           rw [e0, List.drop_length] at hp
           have hq1 : q = -1 := by omega
           subst hq1
           exact k0 hp)
        | (have hp := pfind_drop (k := 0) j hj hj0
           rw [hx1] at hp
           have e1 : pfind v (x :: r) (0 + (j : Int)) = some (j : Int) := by
             show (if x = v then some (0 + (j : Int)) else _) = _
             rw [if_pos (by omega), show (0 : Int) + (j : Int) = j by omega]
           rw [e1] at hp
           subst hq
           exact k1 j (by omega) hp)
      · skip
        show pm_E _ _ _ 22 [(0, .ref 18), (1, .int (iI q))] [.int (iI 1)] _ _ _ _
        refine pm_e_iff pm_a155_22 rfl (by decide +kernel) ?_
        show pm_E _ _ _ 25 [(0, .ref 18), (1, .int (iI q))] [] _ _ _ _
        refine pm_e_inc (y := iI (q + (-1))) pm_a155_25 rfl (iI_add _ _) (by decide +kernel) rfl ?_
        show pm_E _ _ _ 28 [(0, .ref 18), (1, .int (iI (q + (-1))))] [] _ _ _ _
        refine pm_e_goto pm_a155_28 rfl ?_
        show pm_E _ _ _ 7 [(0, .ref 18), (1, .int (iI (q + (-1))))] [] _ _ _ _
        exact ih (q + -1) (j + 1) (by omega) (by omega) (fun i hi y s hy => if e : i = j then (by subst e; rw [hx1] at hy; cases hy; omega) else hj i (by omega) y s hy) (by omega)
set_option maxHeartbeats 4000000 in
set_option maxRecDepth 100000 in
theorem M_readName {d : Nat} {A B : List va_E} {s : Nat → Int} {v : Int} {a : Nat → Int → Int} {nm : Nat → Int64} {Q : Option Value → List va_E → Nat → Nat → Prop} {S : PS} {i : Int} (hA : A.length = 18) (hb : ∀ j, 0 ≤ a 3 j ∧ a 3 j ≤ 255) (h4 : 0 ≤ s 4) (h5 : s 4 ≤ 600) (hi0 : 0 ≤ i) (hi1 : i ≤ s 4) (hR : RL S s a nm) (hw : RW (flat S.1) s a) (hh : S.2.2.1 = 0) (hm : S.2.2.2 = 0) (h13 : s 13 = 0) (e9 : s 9 = (tok (a 3) (s 4) i).2.2.2) (e10 : s 10 = (tok (a 3) (s 4) i).2.2.1) (ev : v = (tok (a 3) (s 4) i).2.1) (hbd : BD (a 3) (s 4) i (s 6)) (hk : (tok (a 3) (s 4) i).1 = 1) (k : ∀ s' v' a' nm', frP s a s' a' → (0 ≤ v' ∧ v' ≤ 282429536481) → NX (a 3) (s 4) (pft S (tok (a 3) (s 4) i).1 v, (tok (a 3) (s 4) i).2.2.1) (pst S (tok (a 3) (s 4) i).1 v) (tok (a 3) (s 4) i).2.2.2 s' a' nm' v' → Q none (mh A s' (lI v') a' nm' B) 0 0) : pm_E none (d + 2) pm_mm155 0 [(0, .ref 18)] [] (mh A s (lI v) a nm B) 0 0 Q := by
  have tf := tok_facts (b := a 3) (n := s 4) (i := i) hi0 hi1 h5
  have tv := tok_val (b := a 3) (n := s 4) (i := i) hb
  have bt := BD_tok hi0 hi1 h5 hbd
  have hw6 := hw.1
  have t6v := tf.2.2.2.2.2.1 (by omega)
  have t5v := tf.2.2.2.2.1 (by omega)
  have hrl := RL_len hR
  refine pm_e_sim pm_a155_0 rfl ?_
  show pm_E _ _ _ 1 [(0, .ref 18)] [.ref 18] _ _ _ _
  refine pm_i_get pm_a155_1 rfl (mh_get (j := 0) hA rfl) rfl ?_
  show pm_E _ _ _ 4 [(0, .ref 18)] [.int (iI (s 20))] _ _ _ _
  refine pm_e_sim pm_a155_4 rfl ?_
  refine pm_e_top (y := iI 1) (by decide +kernel) ?_
  show pm_E _ _ _ 5 [(0, .ref 18)] [.int (iI 1), .int (iI (s 20))] _ _ _ _
  refine pm_e_sim pm_a155_5 rfl ?_
  refine pm_e_top (y := iI (s 20 - 1)) (iI_sub _ _) ?_
  show pm_E _ _ _ 6 [(0, .ref 18)] [.int (iI (s 20 - 1))] _ _ _ _
  refine pm_e_sim pm_a155_6 rfl ?_
  show pm_E _ _ _ 7 [(0, .ref 18), (1, .int (iI (s 20 - 1)))] [] _ _ _ _
  have hnsb := hR.2.2.2.2.2.2.2.2.2
  have e20 := hR.2.2.1
  refine M_readName_l (ns := S.2.1) hA (by rw [ev]; exact tv) hR.2.2.2.1 hnsb (by omega) (fun hpf => ?_) (fun j hj hpf => ?_) (S.2.1.length + 1) _ 0 (by omega) (by omega) (fun i hi => by omega) (by omega)
  · skip
    refine pm_e_sim pm_a155_31 rfl ?_
    show pm_E _ _ _ 32 [(0, .ref 18), (1, .int (iI (-1)))] [.int (iI (-1))] _ _ _ _
    refine pm_e_iff pm_a155_32 rfl (by decide +kernel) ?_
    show pm_E _ _ _ 35 [(0, .ref 18), (1, .int (iI (-1)))] [] _ _ _ _
    refine pm_e_sim pm_a155_35 rfl ?_
    show pm_E _ _ _ 36 [(0, .ref 18), (1, .int (iI (-1)))] [.ref 18] _ _ _ _
    refine pm_e_sim pm_a155_36 rfl ?_
    refine pm_e_top (y := iI 3) (by decide +kernel) ?_
    show pm_E _ _ _ 37 [(0, .ref 18), (1, .int (iI (-1)))] [.int (iI 3), .ref 18] _ _ _ _
    refine pm_e_sim pm_a155_37 rfl ?_
    show pm_E _ _ _ 38 [(0, .ref 18), (1, .int (iI (-1)))] [.ref 18, .int (iI 3), .ref 18] _ _ _ _
    refine pm_i_get pm_a155_38 rfl (mh_get (j := 0) hA rfl) rfl ?_
    show pm_E _ _ _ 41 [(0, .ref 18), (1, .int (iI (-1)))] [.int (iI (s 10)), .int (iI 3), .ref 18] _ _ _ _
    refine pm_i_callv (k := 18) (T2 := pm_mm153) pm_a155_41 rfl rfl rfl (mh_get (j := 0) hA rfl) ⟨Nat.le_of_ble_eq_true rfl, Nat.le_of_ble_eq_true rfl, rfl, by decide +kernel⟩ ?_
    show pm_E none _ _ 0 [(0, .ref 18), (1, .int (iI 3)), (2, .int (iI (s 10)))] [] _ _ _ _
    refine M_fails hA (by rw [h13]; decide) (fun _ => ?_) (fun z => absurd h13 z)
    show pm_E _ _ _ 44 [(0, .ref 18), (1, .int (iI (-1)))] [] _ _ _ _
    refine pm_e_goto pm_a155_44 rfl ?_
    show pm_E _ _ _ 70 [(0, .ref 18), (1, .int (iI (-1)))] [] _ _ _ _
    refine pm_e_ret pm_a155_70 rfl rfl rfl rfl rfl rfl rfl rfl ?_
    refine k _ v a nm ⟨fun j q1 q2 q3 q4 q5 q6 q7 q8 q9 => by simp [updS, q5, q6], fun j q1 q2 q3 q4 => rfl⟩ (by rw [ev]; exact tv) ?_
    have hps : pst S (tok (a 3) (s 4) i).1 v = none := by
      unfold pst
      rw [if_pos hh, if_pos hk, hpf]
      rfl
    rw [hps]
    exact ⟨by show (3 : Int) ≠ 0; decide, by show fl 3; decide, by show ((3 : Int), s 10) = _; rw [pft_1 hh hk, e10]⟩
  · skip
    refine pm_e_sim pm_a155_31 rfl ?_
    show pm_E _ _ _ 32 [(0, .ref 18), (1, .int (iI ((S.2.1.length : Int) - 1 - (j : Int))))] [.int (iI ((S.2.1.length : Int) - 1 - (j : Int)))] _ _ _ _
    refine pm_i_ge (t := 47) pm_a155_32 rfl ⟨by omega, by omega⟩ (fun h_201 => ?_) (fun h_201 => ?_)
    · skip
      show pm_E _ _ _ 47 [(0, .ref 18), (1, .int (iI ((S.2.1.length : Int) - 1 - (j : Int))))] [] _ _ _ _
      refine pm_e_sim pm_a155_47 rfl ?_
      show pm_E _ _ _ 48 [(0, .ref 18), (1, .int (iI ((S.2.1.length : Int) - 1 - (j : Int))))] [.ref 18] _ _ _ _
      refine pm_i_callv (k := 18) (T2 := pm_mm156) pm_a155_48 rfl rfl rfl (mh_get (j := 0) hA rfl) ⟨Nat.le_of_ble_eq_true rfl, Nat.le_of_ble_eq_true rfl, rfl, by decide +kernel⟩ ?_
      show pm_E none _ _ 0 [(0, .ref 18)] [] _ _ _ _
      refine M_partT hA hR hw (by omega) (fun s1 a1 gS1 gA1 hR1 hw1 u1 u2 => ?_)
      have e201 := gS1 20 (by omega)
      have hw16 := hw1.1
      show pm_E _ _ _ 51 [(0, .ref 18), (1, .int (iI ((S.2.1.length : Int) - 1 - (j : Int))))] [] _ _ _ _
      refine pm_e_sim pm_a155_51 rfl ?_
      show pm_E _ _ _ 52 [(0, .ref 18), (1, .int (iI ((S.2.1.length : Int) - 1 - (j : Int))))] [.ref 18] _ _ _ _
      refine pm_e_sim pm_a155_52 rfl ?_
      refine pm_e_top (y := iI 10) (by decide +kernel) ?_
      show pm_E _ _ _ 54 [(0, .ref 18), (1, .int (iI ((S.2.1.length : Int) - 1 - (j : Int))))] [.int (iI 10), .ref 18] _ _ _ _
      refine pm_e_sim pm_a155_54 rfl ?_
      show pm_E _ _ _ 55 [(0, .ref 18), (1, .int (iI ((S.2.1.length : Int) - 1 - (j : Int))))] [.ref 18, .int (iI 10), .ref 18] _ _ _ _
      refine pm_i_get pm_a155_55 rfl (mh_get (j := 0) hA rfl) rfl ?_
      show pm_E _ _ _ 58 [(0, .ref 18), (1, .int (iI ((S.2.1.length : Int) - 1 - (j : Int))))] [.int (iI (s1 20)), .int (iI 10), .ref 18] _ _ _ _
      refine pm_e_sim pm_a155_58 rfl ?_
      refine pm_e_top (y := iI (10 + (s1 20))) (iI_add _ _) ?_
      show pm_E _ _ _ 59 [(0, .ref 18), (1, .int (iI ((S.2.1.length : Int) - 1 - (j : Int))))] [.int (iI (10 + (s1 20))), .ref 18] _ _ _ _
      refine pm_e_sim pm_a155_59 rfl ?_
      refine pm_e_top (y := iI 1) (by decide +kernel) ?_
      show pm_E _ _ _ 60 [(0, .ref 18), (1, .int (iI ((S.2.1.length : Int) - 1 - (j : Int))))] [.int (iI 1), .int (iI (10 + (s1 20))), .ref 18] _ _ _ _
      refine pm_e_sim pm_a155_60 rfl ?_
      refine pm_e_top (y := iI (10 + (s1 20) - 1)) (iI_sub _ _) ?_
      show pm_E _ _ _ 61 [(0, .ref 18), (1, .int (iI ((S.2.1.length : Int) - 1 - (j : Int))))] [.int (iI (10 + (s1 20) - 1)), .ref 18] _ _ _ _
      refine pm_e_sim pm_a155_61 rfl ?_
      show pm_E _ _ _ 62 [(0, .ref 18), (1, .int (iI ((S.2.1.length : Int) - 1 - (j : Int))))] [.int (iI ((S.2.1.length : Int) - 1 - (j : Int))), .int (iI (10 + (s1 20) - 1)), .ref 18] _ _ _ _
      refine pm_e_sim pm_a155_62 rfl ?_
      refine pm_e_top (y := iI (10 + (s1 20) - 1 - ((S.2.1.length : Int) - 1 - (j : Int)))) (iI_sub _ _) ?_
      show pm_E _ _ _ 63 [(0, .ref 18), (1, .int (iI ((S.2.1.length : Int) - 1 - (j : Int))))] [.int (iI (10 + (s1 20) - 1 - ((S.2.1.length : Int) - 1 - (j : Int)))), .ref 18] _ _ _ _
      refine pm_i_callv (k := 18) (T2 := pm_mm157) pm_a155_63 rfl rfl rfl (mh_get (j := 0) hA rfl) ⟨Nat.le_of_ble_eq_true rfl, Nat.le_of_ble_eq_true rfl, rfl, by decide +kernel⟩ ?_
      show pm_E none _ _ 0 [(0, .ref 18), (1, .int (iI (10 + (s1 20) - 1 - ((S.2.1.length : Int) - 1 - (j : Int)))))] [] _ _ _ _
      refine M_layT hA hw1 (by omega) ⟨by omega, by omega⟩ (fun s2 a2 gS2 gA2 hw2 u2 => ?_)
      show pm_E _ _ _ 66 [(0, .ref 18), (1, .int (iI ((S.2.1.length : Int) - 1 - (j : Int))))] [] _ _ _ _
      refine pm_e_sim pm_a155_66 rfl ?_
      show pm_E _ _ _ 67 [(0, .ref 18), (1, .int (iI ((S.2.1.length : Int) - 1 - (j : Int))))] [.ref 18] _ _ _ _
      refine pm_i_callv (k := 18) (T2 := pm_mm151) pm_a155_67 rfl rfl rfl (mh_get (j := 0) hA rfl) ⟨Nat.le_of_ble_eq_true rfl, Nat.le_of_ble_eq_true rfl, rfl, by decide +kernel⟩ ?_
      show pm_E none _ _ 0 [(0, .ref 18)] [] _ _ _ _
      have fS : ∀ j, j ≠ 6 → s2 j = s j := fun j h => by rw [gS2 j h, gS1 j h]
      have fA : ∀ j, j ≠ 4 → j ≠ 8 → a2 j = a j := fun j h h2 => by rw [gA2 j h, gA1 j h h2]
      have f3 : a2 3 = a 3 := fA 3 (by omega) (by omega)
      have f4 := fS 4 (by omega)
      have f9 := fS 9 (by omega)
      have hfl : flat (pPart S.1) ++ [10 + s 20 - 1 - ((S.2.1.length : Int) - 1 - (j : Int))] = flat (pAdd (pPart S.1) (10 + (j : Int))) := by
        rw [flat_add (pPart_ne (wfL_ne hR.2.2.2.2.2.2.1)), ex1_cell (by omega) (by omega), show 10 + s 20 - 1 - ((S.2.1.length : Int) - 1 - (j : Int)) = 10 + (j : Int) by omega]
      rw [show 10 + s1 20 - 1 - ((S.2.1.length : Int) - 1 - (j : Int)) = 10 + s 20 - 1 - ((S.2.1.length : Int) - 1 - (j : Int)) by rw [gS1 20 (by omega)], hfl] at hw2
      refine M_nextT (s := s2) (a := a2) hA (by rw [f3]; exact hb) (by rw [fS 13 (by omega)]; exact h13) (by rw [f4]; omega) (by rw [f4]; omega) (by rw [f9]; omega) (by rw [f9, f4]; omega) (fun s9 v9 g9 t9 b9 => ?_)
      rw [f3, f4, f9, e9] at t9
      show pm_E _ _ _ 70 [(0, .ref 18), (1, .int (iI ((S.2.1.length : Int) - 1 - (j : Int))))] [] _ _ _ _
      refine pm_e_ret pm_a155_70 rfl rfl rfl rfl rfl rfl rfl rfl ?_
      have hps : pst S (tok (a 3) (s 4) i).1 v = some (pAdd (pPart S.1) (10 + (j : Int)), S.2.1, 0, 0) := by
        unfold pst
        rw [if_pos hh, if_pos hk, hpf]
        rfl
      refine k s9 v9 a2 nm ⟨fun j q1 q2 q3 q4 q5 q6 q7 q8 q9 => by rw [g9 j q2 q3 q4 q5 q6]; exact fS j q1, fun j q1 q2 q3 q4 => fA j q1 q3⟩ b9 ?_
      rw [hps]
      have hR8 : RL (pAdd (pPart S.1) (10 + (j : Int)), S.2.1, 0, 0) s9 a2 nm := by
        have := RL_add (i := 10 + (j : Int)) (h := 0) hR1
        rw [show (pPart S.1, S.2).2.2.2 = 0 from hm] at this
        refine RL_fr this ?_ ?_ ?_ ?_ ?_ ?_
        · rw [g9 18 (by omega) (by omega) (by omega) (by omega) (by omega), gS2 18 (by omega)]
        · rw [g9 20 (by omega) (by omega) (by omega) (by omega) (by omega), gS2 20 (by omega)]
        · rw [g9 21 (by omega) (by omega) (by omega) (by omega) (by omega), gS2 21 (by omega)]
        · rw [gA2 7 (by omega)]
        · rw [gA2 8 (by omega)]
        · rw [gA2 9 (by omega)]
      have z6 : s9 6 = s2 6 := g9 6 (by omega) (by omega) (by omega) (by omega) (by omega)
      refine ⟨hR8, ⟨by rw [z6]; exact hw2.1, hw2.2.1, hw2.2.2⟩, t9, ?_, fun z1 z2 z3 => ?_⟩
      · have := bt.1; omega
      · have := bt.1; omega
    · skip
      exfalso; omega
