/-! THE REFERENCE: isAbstracted, abstracted -/
theorem last1 {g : Int → Int} : ∀ (n : Nat), (∃ j, 0 ≤ j ∧ j < (n : Int) ∧ g j = 1) → ∃ q, 0 ≤ q ∧ q < (n : Int) ∧ g q = 1 ∧ ∀ j, q < j → j < (n : Int) → g j ≠ 1 := by
  intro n
  induction n with
  | zero => intro ⟨j, a, b, _⟩; exfalso; omega
  | succ n ih =>
    intro ⟨j, a, b, c⟩
    by_cases hn : g n = 1
    · exact ⟨n, by omega, by omega, hn, fun j z y => by omega⟩
    · obtain ⟨q, q0, q1, q2, q3⟩ := ih ⟨j, a, by
        by_cases z : j = n
        · subst z; exact absurd c hn
        · omega, c⟩
      exact ⟨q, q0, by omega, q2, fun j z y => if hj : j = n then (by rw [hj]; exact hn) else q3 j z (by omega)⟩
theorem rg_of (l : List Int) : rg (fun i => l.getD i.toNat 0) l.length 0 = l := by
  have : ∀ (l : List Int) (p : Nat) (L : List Int), L.drop p = l → rg (fun i => L.getD i.toNat 0) l.length p = l := by
    intro l
    induction l with
    | nil => intro p L _; rfl
    | cons v l ih =>
      intro p L h
      have hp : p < L.length := by
        have := congrArg List.length h
        rw [List.length_drop, List.length_cons] at this
        omega
      have h1 : L[p] :: L.drop (p + 1) = v :: l := by rw [← h]; exact (List.drop_eq_getElem_cons hp).symm
      obtain ⟨h2, h3⟩ := List.cons.inj h1
      show L.getD (p : Int).toNat 0 :: rg _ l.length ((p : Int) + 1) = v :: l
      have := ih (p + 1) L h3
      rw [show ((p + 1 : Nat) : Int) = (p : Int) + 1 by omega] at this
      rw [this, show (p : Int).toNat = p by omega, List.getD_eq_getElem?_getD, List.getElem?_eq_getElem hp, Option.getD_some, h2]
  exact this l 0 l rfl
theorem abS_ex {g : Int → Int} {l : List Int} {F : Nat} {q e k : Int} {f1 : Nat} (t : tL F 0 l) (hg : rg g l.length 0 = l) (q0 : 0 ≤ q) (q1 : q < l.length) (h1 : g q = 1) (hn : ∀ j, q < j → j < (l.length : Int) → g j ≠ 1) (te : tm g f1 k q e) : ∃ r, ab g f1 (q + 1) e r ∧ abS l (rg g q.toNat 0 ++ r ++ rg g ((l.length : Int) - e).toNat e) r := by
  have tg := tL_tm0 t hg
  obtain ⟨f3, k3, e3, t3, l3, _⟩ := tm_sub tg q q0 q1
  have e1 := tm_one t3 te
  subst e1
  obtain ⟨f4, t4, ef⟩ := tm_lam te h1
  obtain ⟨r, hr⟩ := ab_ex t4 (fun j z y => hn j (by omega) (by omega))
  exact ⟨r, ab_le (by omega) hr, g, q, e3, f4, hg, q0, q1, h1, hn, ⟨_, _, te⟩, hr, rfl⟩
theorem abR_ex : ∀ (n : Nat) {l : List Int} {F : Nat}, tL F 0 l → l.count 1 = n → ∃ o, abR n l o := by
  intro n
  induction n with
  | zero =>
    intro l F t hc
    exact ⟨_, fun v hv z => by rw [z] at hv; exact absurd hc (by have := List.count_pos_iff.mpr hv; omega), rfl⟩
  | succ n ih =>
    intro l F t hc
    have hg := rg_of l
    have hm : (1 : Int) ∈ l := List.count_pos_iff.mp (by omega)
    rw [← hg] at hm
    obtain ⟨j, j1, j2, j3⟩ := rg_mem hm
    obtain ⟨q, q0, q1, q2, q3⟩ := last1 (g := fun i => l.getD i.toNat 0) l.length ⟨j, j1, by omega, j3.symm⟩
    obtain ⟨f3, k3, e3, t3, l3, _⟩ := tm_sub (tL_tm0 t hg) q q0 q1
    obtain ⟨r, _, hs⟩ := abS_ex t hg q0 q1 q2 q3 t3
    obtain ⟨⟨F', t1⟩, _, h3, _⟩ := abS_facts t hs
    by_cases hr : 500 < r.length
    · exact ⟨none, Or.inr ⟨_, r, hs, Or.inl ⟨hr, rfl⟩⟩⟩
    · obtain ⟨o, ho⟩ := ih t1 (by omega)
      exact ⟨o, Or.inr ⟨_, r, hs, Or.inr ⟨by omega, ho⟩⟩⟩
theorem cnt_le {g : Int → Int} {n : Nat} {q : Int} (hn : ∀ j, q ≤ j → j < (n : Int) → g j ≠ 1) (hq : 0 ≤ q) : ((rg g n 0).count 1 : Int) ≤ q := by
  by_cases h : q < n
  · have c := rg_cut (g := g) (p := 0) (m := q) (e := (n : Int)) (by omega) (by omega)
    rw [show ((n : Int) - 0).toNat = n by omega] at c
    have c0 : (rg g ((n : Int) - q).toNat q).count 1 = 0 := List.count_eq_zero.mpr (fun z => by
      obtain ⟨j, a1, a2, a3⟩ := rg_mem z
      exact hn j a1 (by omega) a3.symm)
    rw [c, List.count_append, c0]
    have := List.count_le_length (a := (1 : Int)) (l := rg g (q - 0).toNat 0)
    rw [rg_len] at this
    omega
  · have := List.count_le_length (a := (1 : Int)) (l := rg g n 0)
    rw [rg_len] at this
    omega
set_option maxHeartbeats 4000000 in
set_option maxRecDepth 100000 in
theorem M_isAb_r {d : Nat} {A B : List va_E} {vl : Int64} {nm : Nat → Int64} {Q : Option Value → List va_E → Nat → Nat → Prop} {s : Nat → Int} {a : Nat → Int → Int} {q e m o : Int} {g0 : Int → Int} (hA : A.length = 18) (h6 : 0 ≤ s 6) (h61 : s 6 ≤ 3000) (he0 : 0 ≤ e) (he1 : e ≤ s 6) (hi0 : ∀ j, in32 (g0 j)) (ho : 0 < o) (ho1 : o ≤ 3000) (k : (∀ (g : Int → Int) (i : Int), (∀ j, j < e + o → j < e → g j = g0 j) → (∀ j, e + o ≤ j → j < s 6 + o → g j = g0 (j - o)) → (∀ j, in32 (g j)) → pm_E none (d + 3) pm_mm195 138 [(0, .ref 18), (1, .int (iI q)), (2, .int (iI e)), (3, .int (iI m)), (4, .int (iI o)), (5, .int (iI i))] [] (mh A s vl (updA a 4 g) nm B) 0 0 Q)) : ∀ (f : Nat) (i : Int) (g : Int → Int), e - 1 ≤ i → i < s 6 → (∀ j, j ≤ i + o → g j = g0 j) → (∀ j, i + o < j → j < s 6 + o → g j = g0 (j - o)) → (∀ j, in32 (g j)) → i - e + 1 < (f : Int) → pm_E none (d + 3) pm_mm195 109 [(0, .ref 18), (1, .int (iI q)), (2, .int (iI e)), (3, .int (iI m)), (4, .int (iI o)), (5, .int (iI i))] [] (mh A s vl (updA a 4 g) nm B) 0 0 Q := by
  intro f
  induction f with
  | zero =>
    intro i g h0 h1 hg1 hg2 hgi hf
    exfalso; omega
  | succ f ih =>
    intro i g h0 h1 hg1 hg2 hgi hf
    refine pm_e_sim pm_a195_109 rfl ?_
    show pm_E _ _ _ 111 [(0, .ref 18), (1, .int (iI q)), (2, .int (iI e)), (3, .int (iI m)), (4, .int (iI o)), (5, .int (iI i))] [.int (iI i)] _ _ _ _
    refine pm_e_sim pm_a195_111 rfl ?_
    show pm_E _ _ _ 112 [(0, .ref 18), (1, .int (iI q)), (2, .int (iI e)), (3, .int (iI m)), (4, .int (iI o)), (5, .int (iI i))] [.int (iI e), .int (iI i)] _ _ _ _
    refine pm_c_lt (t := 138) pm_a195_112 rfl ⟨by omega, by omega⟩ ⟨by omega, by omega⟩ (fun h_1 => ?_) (fun h_1 => ?_)
    · skip
      show pm_E _ _ _ 138 [(0, .ref 18), (1, .int (iI q)), (2, .int (iI e)), (3, .int (iI m)), (4, .int (iI o)), (5, .int (iI i))] [] _ _ _ _
      exact k g i (fun j z y => hg1 j (by omega)) (fun j z y => hg2 j (by omega) y) hgi
    · skip
      show pm_E _ _ _ 115 [(0, .ref 18), (1, .int (iI q)), (2, .int (iI e)), (3, .int (iI m)), (4, .int (iI o)), (5, .int (iI i))] [] _ _ _ _
      refine pm_e_sim pm_a195_115 rfl ?_
      show pm_E _ _ _ 116 [(0, .ref 18), (1, .int (iI q)), (2, .int (iI e)), (3, .int (iI m)), (4, .int (iI o)), (5, .int (iI i))] [.ref 18] _ _ _ _
      refine pm_i_get pm_a195_116 rfl (mh_get (j := 0) hA rfl) rfl ?_
      show pm_E _ _ _ 119 [(0, .ref 18), (1, .int (iI q)), (2, .int (iI e)), (3, .int (iI m)), (4, .int (iI o)), (5, .int (iI i))] [.ref 22] _ _ _ _
      refine pm_e_sim pm_a195_119 rfl ?_
      show pm_E _ _ _ 121 [(0, .ref 18), (1, .int (iI q)), (2, .int (iI e)), (3, .int (iI m)), (4, .int (iI o)), (5, .int (iI i))] [.int (iI i), .ref 22] _ _ _ _
      refine pm_e_sim pm_a195_121 rfl ?_
      show pm_E _ _ _ 123 [(0, .ref 18), (1, .int (iI q)), (2, .int (iI e)), (3, .int (iI m)), (4, .int (iI o)), (5, .int (iI i))] [.int (iI o), .int (iI i), .ref 22] _ _ _ _
      refine pm_e_sim pm_a195_123 rfl ?_
      refine pm_e_top (y := iI (i + o)) (iI_add _ _) ?_
      show pm_E _ _ _ 124 [(0, .ref 18), (1, .int (iI q)), (2, .int (iI e)), (3, .int (iI m)), (4, .int (iI o)), (5, .int (iI i))] [.int (iI (i + o)), .ref 22] _ _ _ _
      refine pm_e_sim pm_a195_124 rfl ?_
      show pm_E _ _ _ 125 [(0, .ref 18), (1, .int (iI q)), (2, .int (iI e)), (3, .int (iI m)), (4, .int (iI o)), (5, .int (iI i))] [.ref 18, .int (iI (i + o)), .ref 22] _ _ _ _
      refine pm_i_get pm_a195_125 rfl (mh_get (j := 0) hA rfl) rfl ?_
      show pm_E _ _ _ 128 [(0, .ref 18), (1, .int (iI q)), (2, .int (iI e)), (3, .int (iI m)), (4, .int (iI o)), (5, .int (iI i))] [.ref 22, .int (iI (i + o)), .ref 22] _ _ _ _
      refine pm_e_sim pm_a195_128 rfl ?_
      show pm_E _ _ _ 130 [(0, .ref 18), (1, .int (iI q)), (2, .int (iI e)), (3, .int (iI m)), (4, .int (iI o)), (5, .int (iI i))] [.int (iI i), .ref 22, .int (iI (i + o)), .ref 22] _ _ _ _
      refine pm_i_ald pm_a195_130 (mh_get (j := 4) hA rfl) (by omega) (by omega) ⟨by omega, by omega⟩ ?_
      show pm_E _ _ _ 131 [(0, .ref 18), (1, .int (iI q)), (2, .int (iI e)), (3, .int (iI m)), (4, .int (iI o)), (5, .int (iI i))] [.int (iI ((g) (i))), .int (iI (i + o)), .ref 22] _ _ _ _
      refine pm_i_ast pm_a195_131 (mh_get (j := 4) hA rfl) (by omega) (by omega) ⟨by omega, by omega⟩ (ma_4 hA _) ?_
      show pm_E _ _ _ 132 [(0, .ref 18), (1, .int (iI q)), (2, .int (iI e)), (3, .int (iI m)), (4, .int (iI o)), (5, .int (iI i))] [] _ _ _ _
      refine pm_e_inc (y := iI (i + (-1))) pm_a195_132 rfl (iI_add _ _) (by decide +kernel) rfl ?_
      show pm_E _ _ _ 135 [(0, .ref 18), (1, .int (iI q)), (2, .int (iI e)), (3, .int (iI m)), (4, .int (iI o)), (5, .int (iI (i + (-1))))] [] _ _ _ _
      refine pm_e_goto pm_a195_135 rfl ?_
      show pm_E _ _ _ 109 [(0, .ref 18), (1, .int (iI q)), (2, .int (iI e)), (3, .int (iI m)), (4, .int (iI o)), (5, .int (iI (i + (-1))))] [] _ _ _ _
      refine pm_e_heap (show _ = mh A s vl (updA a 4 (updI g (i + o) (g i))) nm B from by rw [updA_s]; rfl) ?_
      exact ih (i + -1) _ (by omega) (by omega) (fun j z => by rw [updI_n _ _ (by omega)]; exact hg1 j (by omega)) (fun j z y => by
        by_cases hj : j = i + o
        · rw [hj, updI_s, hg1 i (by omega), show i + o - o = i by omega]
        · rw [updI_n _ _ hj]; exact hg2 j (by omega) y) (updI_in hgi (hgi i)) (by omega)
set_option maxHeartbeats 4000000 in
set_option maxRecDepth 100000 in
theorem M_isAb_s {d : Nat} {A B : List va_E} {vl : Int64} {nm : Nat → Int64} {Q : Option Value → List va_E → Nat → Nat → Prop} {s : Nat → Int} {a : Nat → Int → Int} {q e m o : Int} {g0 : Int → Int} (hA : A.length = 18) (h6 : 0 ≤ s 6) (h61 : s 6 ≤ 3000) (he0 : 0 ≤ e) (he1 : e ≤ s 6) (hi0 : ∀ j, in32 (g0 j)) (ho : o ≤ 0) (ho1 : 0 ≤ e + o) (k : (∀ (g : Int → Int) (i : Int), (∀ j, j < e + o → j < e → g j = g0 j) → (∀ j, e + o ≤ j → j < s 6 + o → g j = g0 (j - o)) → (∀ j, in32 (g j)) → pm_E none (d + 3) pm_mm195 176 [(0, .ref 18), (1, .int (iI q)), (2, .int (iI e)), (3, .int (iI m)), (4, .int (iI o)), (5, .int (iI i))] [] (mh A s vl (updA a 4 g) nm B) 0 0 Q)) : ∀ (f : Nat) (i : Int) (g : Int → Int), e ≤ i → i ≤ s 6 → (∀ j, j < e + o ∨ i + o ≤ j → g j = g0 j) → (∀ j, e + o ≤ j → j < i + o → g j = g0 (j - o)) → (∀ j, in32 (g j)) → s 6 - i < (f : Int) → pm_E none (d + 3) pm_mm195 144 [(0, .ref 18), (1, .int (iI q)), (2, .int (iI e)), (3, .int (iI m)), (4, .int (iI o)), (5, .int (iI i))] [] (mh A s vl (updA a 4 g) nm B) 0 0 Q := by
  intro f
  induction f with
  | zero =>
    intro i g h0 h1 hg1 hg2 hgi hf
    exfalso; omega
  | succ f ih =>
    intro i g h0 h1 hg1 hg2 hgi hf
    refine pm_e_sim pm_a195_144 rfl ?_
    show pm_E _ _ _ 146 [(0, .ref 18), (1, .int (iI q)), (2, .int (iI e)), (3, .int (iI m)), (4, .int (iI o)), (5, .int (iI i))] [.int (iI i)] _ _ _ _
    refine pm_e_sim pm_a195_146 rfl ?_
    show pm_E _ _ _ 147 [(0, .ref 18), (1, .int (iI q)), (2, .int (iI e)), (3, .int (iI m)), (4, .int (iI o)), (5, .int (iI i))] [.ref 18, .int (iI i)] _ _ _ _
    refine pm_i_get pm_a195_147 rfl (mh_get (j := 0) hA rfl) rfl ?_
    show pm_E _ _ _ 150 [(0, .ref 18), (1, .int (iI q)), (2, .int (iI e)), (3, .int (iI m)), (4, .int (iI o)), (5, .int (iI i))] [.int (iI (s 6)), .int (iI i)] _ _ _ _
    refine pm_c_ge (t := 176) pm_a195_150 rfl ⟨by omega, by omega⟩ ⟨by omega, by omega⟩ (fun h_1 => ?_) (fun h_1 => ?_)
    · skip
      show pm_E _ _ _ 176 [(0, .ref 18), (1, .int (iI q)), (2, .int (iI e)), (3, .int (iI m)), (4, .int (iI o)), (5, .int (iI i))] [] _ _ _ _
      exact k g i (fun j z y => hg1 j (by omega)) (fun j z y => hg2 j z (by omega)) hgi
    · skip
      show pm_E _ _ _ 153 [(0, .ref 18), (1, .int (iI q)), (2, .int (iI e)), (3, .int (iI m)), (4, .int (iI o)), (5, .int (iI i))] [] _ _ _ _
      refine pm_e_sim pm_a195_153 rfl ?_
      show pm_E _ _ _ 154 [(0, .ref 18), (1, .int (iI q)), (2, .int (iI e)), (3, .int (iI m)), (4, .int (iI o)), (5, .int (iI i))] [.ref 18] _ _ _ _
      refine pm_i_get pm_a195_154 rfl (mh_get (j := 0) hA rfl) rfl ?_
      show pm_E _ _ _ 157 [(0, .ref 18), (1, .int (iI q)), (2, .int (iI e)), (3, .int (iI m)), (4, .int (iI o)), (5, .int (iI i))] [.ref 22] _ _ _ _
      refine pm_e_sim pm_a195_157 rfl ?_
      show pm_E _ _ _ 159 [(0, .ref 18), (1, .int (iI q)), (2, .int (iI e)), (3, .int (iI m)), (4, .int (iI o)), (5, .int (iI i))] [.int (iI i), .ref 22] _ _ _ _
      refine pm_e_sim pm_a195_159 rfl ?_
      show pm_E _ _ _ 161 [(0, .ref 18), (1, .int (iI q)), (2, .int (iI e)), (3, .int (iI m)), (4, .int (iI o)), (5, .int (iI i))] [.int (iI o), .int (iI i), .ref 22] _ _ _ _
      refine pm_e_sim pm_a195_161 rfl ?_
      refine pm_e_top (y := iI (i + o)) (iI_add _ _) ?_
      show pm_E _ _ _ 162 [(0, .ref 18), (1, .int (iI q)), (2, .int (iI e)), (3, .int (iI m)), (4, .int (iI o)), (5, .int (iI i))] [.int (iI (i + o)), .ref 22] _ _ _ _
      refine pm_e_sim pm_a195_162 rfl ?_
      show pm_E _ _ _ 163 [(0, .ref 18), (1, .int (iI q)), (2, .int (iI e)), (3, .int (iI m)), (4, .int (iI o)), (5, .int (iI i))] [.ref 18, .int (iI (i + o)), .ref 22] _ _ _ _
      refine pm_i_get pm_a195_163 rfl (mh_get (j := 0) hA rfl) rfl ?_
      show pm_E _ _ _ 166 [(0, .ref 18), (1, .int (iI q)), (2, .int (iI e)), (3, .int (iI m)), (4, .int (iI o)), (5, .int (iI i))] [.ref 22, .int (iI (i + o)), .ref 22] _ _ _ _
      refine pm_e_sim pm_a195_166 rfl ?_
      show pm_E _ _ _ 168 [(0, .ref 18), (1, .int (iI q)), (2, .int (iI e)), (3, .int (iI m)), (4, .int (iI o)), (5, .int (iI i))] [.int (iI i), .ref 22, .int (iI (i + o)), .ref 22] _ _ _ _
      refine pm_i_ald pm_a195_168 (mh_get (j := 4) hA rfl) (by omega) (by omega) ⟨by omega, by omega⟩ ?_
      show pm_E _ _ _ 169 [(0, .ref 18), (1, .int (iI q)), (2, .int (iI e)), (3, .int (iI m)), (4, .int (iI o)), (5, .int (iI i))] [.int (iI ((g) (i))), .int (iI (i + o)), .ref 22] _ _ _ _
      refine pm_i_ast pm_a195_169 (mh_get (j := 4) hA rfl) (by omega) (by omega) ⟨by omega, by omega⟩ (ma_4 hA _) ?_
      show pm_E _ _ _ 170 [(0, .ref 18), (1, .int (iI q)), (2, .int (iI e)), (3, .int (iI m)), (4, .int (iI o)), (5, .int (iI i))] [] _ _ _ _
      refine pm_e_inc (y := iI (i + 1)) pm_a195_170 rfl (iI_add _ _) (by decide +kernel) rfl ?_
      show pm_E _ _ _ 173 [(0, .ref 18), (1, .int (iI q)), (2, .int (iI e)), (3, .int (iI m)), (4, .int (iI o)), (5, .int (iI (i + 1)))] [] _ _ _ _
      refine pm_e_goto pm_a195_173 rfl ?_
      show pm_E _ _ _ 144 [(0, .ref 18), (1, .int (iI q)), (2, .int (iI e)), (3, .int (iI m)), (4, .int (iI o)), (5, .int (iI (i + 1)))] [] _ _ _ _
      refine pm_e_heap (show _ = mh A s vl (updA a 4 (updI g (i + o) (g i))) nm B from by rw [updA_s]; rfl) ?_
      exact ih (i + 1) _ (by omega) (by omega) (fun j z => by rw [updI_n _ _ (by omega)]; exact hg1 j (by omega)) (fun j z y => by
        by_cases hj : j = i + o
        · rw [hj, updI_s, hg1 i (by omega), show i + o - o = i by omega]
        · rw [updI_n _ _ hj]; exact hg2 j z (by omega)) (updI_in hgi (hgi i)) (by omega)
set_option maxHeartbeats 4000000 in
set_option maxRecDepth 100000 in
theorem M_isAb_c {d : Nat} {A B : List va_E} {vl : Int64} {nm : Nat → Int64} {Q : Option Value → List va_E → Nat → Nat → Prop} {s : Nat → Int} {a : Nat → Int → Int} {q e m o : Int} {g0 : Int → Int} (hA : A.length = 18) (hq : 0 ≤ q) (hm : 0 ≤ m) (hqm : q + m ≤ 11000) (hfr : ∀ j, 0 ≤ j → j < m → in32 (a 15 j)) (k : ∀ (g : Int → Int) (i : Int), (∀ j, j < q ∨ q + m ≤ j → g j = g0 j) → (∀ j, 0 ≤ j → j < m → g (q + j) = a 15 j) → (∀ j, in32 (g j)) → pm_E none (d + 3) pm_mm195 207 [(0, .ref 18), (1, .int (iI q)), (2, .int (iI e)), (3, .int (iI m)), (4, .int (iI o)), (5, .int (iI i))] [] (mh A s vl (updA a 4 g) nm B) 0 0 Q) : ∀ (f : Nat) (i : Int) (g : Int → Int), 0 ≤ i → i ≤ m → (∀ j, j < q ∨ q + i ≤ j → g j = g0 j) → (∀ j, 0 ≤ j → j < i → g (q + j) = a 15 j) → (∀ j, in32 (g j)) → m - i < (f : Int) → pm_E none (d + 3) pm_mm195 179 [(0, .ref 18), (1, .int (iI q)), (2, .int (iI e)), (3, .int (iI m)), (4, .int (iI o)), (5, .int (iI i))] [] (mh A s vl (updA a 4 g) nm B) 0 0 Q := by
  intro f
  induction f with
  | zero =>
    intro i g h0 h1 hg1 hg2 hgi hf
    exfalso; omega
  | succ f ih =>
    intro i g h0 h1 hg1 hg2 hgi hf
    refine pm_e_sim pm_a195_179 rfl ?_
    show pm_E _ _ _ 181 [(0, .ref 18), (1, .int (iI q)), (2, .int (iI e)), (3, .int (iI m)), (4, .int (iI o)), (5, .int (iI i))] [.int (iI i)] _ _ _ _
    refine pm_e_sim pm_a195_181 rfl ?_
    show pm_E _ _ _ 182 [(0, .ref 18), (1, .int (iI q)), (2, .int (iI e)), (3, .int (iI m)), (4, .int (iI o)), (5, .int (iI i))] [.int (iI m), .int (iI i)] _ _ _ _
    refine pm_c_ge (t := 207) pm_a195_182 rfl ⟨by omega, by omega⟩ ⟨by omega, by omega⟩ (fun h_1 => ?_) (fun h_1 => ?_)
    · skip
      show pm_E _ _ _ 207 [(0, .ref 18), (1, .int (iI q)), (2, .int (iI e)), (3, .int (iI m)), (4, .int (iI o)), (5, .int (iI i))] [] _ _ _ _
      exact k g i (fun j z => hg1 j (by omega)) (fun j z y => hg2 j z (by omega)) hgi
    · skip
      show pm_E _ _ _ 185 [(0, .ref 18), (1, .int (iI q)), (2, .int (iI e)), (3, .int (iI m)), (4, .int (iI o)), (5, .int (iI i))] [] _ _ _ _
      refine pm_e_sim pm_a195_185 rfl ?_
      show pm_E _ _ _ 186 [(0, .ref 18), (1, .int (iI q)), (2, .int (iI e)), (3, .int (iI m)), (4, .int (iI o)), (5, .int (iI i))] [.ref 18] _ _ _ _
      refine pm_i_get pm_a195_186 rfl (mh_get (j := 0) hA rfl) rfl ?_
      show pm_E _ _ _ 189 [(0, .ref 18), (1, .int (iI q)), (2, .int (iI e)), (3, .int (iI m)), (4, .int (iI o)), (5, .int (iI i))] [.ref 22] _ _ _ _
      refine pm_e_sim pm_a195_189 rfl ?_
      show pm_E _ _ _ 190 [(0, .ref 18), (1, .int (iI q)), (2, .int (iI e)), (3, .int (iI m)), (4, .int (iI o)), (5, .int (iI i))] [.int (iI q), .ref 22] _ _ _ _
      refine pm_e_sim pm_a195_190 rfl ?_
      show pm_E _ _ _ 192 [(0, .ref 18), (1, .int (iI q)), (2, .int (iI e)), (3, .int (iI m)), (4, .int (iI o)), (5, .int (iI i))] [.int (iI i), .int (iI q), .ref 22] _ _ _ _
      refine pm_e_sim pm_a195_192 rfl ?_
      refine pm_e_top (y := iI (q + i)) (iI_add _ _) ?_
      show pm_E _ _ _ 193 [(0, .ref 18), (1, .int (iI q)), (2, .int (iI e)), (3, .int (iI m)), (4, .int (iI o)), (5, .int (iI i))] [.int (iI (q + i)), .ref 22] _ _ _ _
      refine pm_e_sim pm_a195_193 rfl ?_
      show pm_E _ _ _ 194 [(0, .ref 18), (1, .int (iI q)), (2, .int (iI e)), (3, .int (iI m)), (4, .int (iI o)), (5, .int (iI i))] [.ref 18, .int (iI (q + i)), .ref 22] _ _ _ _
      refine pm_i_get pm_a195_194 rfl (mh_get (j := 0) hA rfl) rfl ?_
      show pm_E _ _ _ 197 [(0, .ref 18), (1, .int (iI q)), (2, .int (iI e)), (3, .int (iI m)), (4, .int (iI o)), (5, .int (iI i))] [.ref 33, .int (iI (q + i)), .ref 22] _ _ _ _
      refine pm_e_sim pm_a195_197 rfl ?_
      show pm_E _ _ _ 199 [(0, .ref 18), (1, .int (iI q)), (2, .int (iI e)), (3, .int (iI m)), (4, .int (iI o)), (5, .int (iI i))] [.int (iI i), .ref 33, .int (iI (q + i)), .ref 22] _ _ _ _
      refine pm_i_ald pm_a195_199 (mh_get (j := 15) hA rfl) (by omega) (by omega) ⟨by omega, by omega⟩ ?_
      show pm_E _ _ _ 200 [(0, .ref 18), (1, .int (iI q)), (2, .int (iI e)), (3, .int (iI m)), (4, .int (iI o)), (5, .int (iI i))] [.int (iI ((a 15) (i))), .int (iI (q + i)), .ref 22] _ _ _ _
      refine pm_i_ast pm_a195_200 (mh_get (j := 4) hA rfl) (by omega) (by omega) ⟨by omega, by omega⟩ (ma_4 hA _) ?_
      show pm_E _ _ _ 201 [(0, .ref 18), (1, .int (iI q)), (2, .int (iI e)), (3, .int (iI m)), (4, .int (iI o)), (5, .int (iI i))] [] _ _ _ _
      refine pm_e_inc (y := iI (i + 1)) pm_a195_201 rfl (iI_add _ _) (by decide +kernel) rfl ?_
      show pm_E _ _ _ 204 [(0, .ref 18), (1, .int (iI q)), (2, .int (iI e)), (3, .int (iI m)), (4, .int (iI o)), (5, .int (iI (i + 1)))] [] _ _ _ _
      refine pm_e_goto pm_a195_204 rfl ?_
      show pm_E _ _ _ 179 [(0, .ref 18), (1, .int (iI q)), (2, .int (iI e)), (3, .int (iI m)), (4, .int (iI o)), (5, .int (iI (i + 1)))] [] _ _ _ _
      refine pm_e_heap (show _ = mh A s vl (updA a 4 (updI g (q + i) (a 15 i))) nm B from by rw [updA_s]; rfl) ?_
      exact ih (i + 1) _ (by omega) (by omega) (fun j z => by rw [updI_n _ _ (by omega)]; exact hg1 j (by omega)) (fun j z y => by
        by_cases hj : j = i
        · rw [hj, updI_s]
        · rw [updI_n _ _ (by omega)]; exact hg2 j z (by omega)) (updI_in hgi (hfr i (by omega) (by omega))) (by omega)
set_option maxHeartbeats 4000000 in
set_option maxRecDepth 100000 in
theorem M_isAb_q {d : Nat} {A B : List va_E} {vl : Int64} {nm : Nat → Int64} {Q : Option Value → List va_E → Nat → Nat → Prop} {s : Nat → Int} {a : Nat → Int → Int} {Z : Int} (hA : A.length = 18) (h6 : 0 ≤ s 6) (h61 : s 6 ≤ 3000) (hr : ∀ j, in32 (a 4 j)) (k : ∀ q, q ≤ Z → -1 ≤ q → q < s 6 → (∀ j, q < j → j < s 6 → a 4 j ≠ 1) → (0 ≤ q → a 4 q = 1) → pm_E none (d + 3) pm_mm195 31 [(0, .ref 18), (1, .int (iI q))] [] (mh A s vl a nm B) 0 0 Q) : ∀ (f : Nat) (q : Int), q ≤ Z → -1 ≤ q → q < s 6 → (∀ j, q < j → j < s 6 → a 4 j ≠ 1) → q + 1 < (f : Int) → pm_E none (d + 3) pm_mm195 11 [(0, .ref 18), (1, .int (iI q))] [] (mh A s vl a nm B) 0 0 Q := by
  intro f
  induction f with
  | zero =>
    intro q hz h0 h1 hq hf
    exfalso; omega
  | succ f ih =>
    intro q hz h0 h1 hq hf
    have hrq := hr q
    refine pm_e_sim pm_a195_11 rfl ?_
    show pm_E _ _ _ 12 [(0, .ref 18), (1, .int (iI q))] [.int (iI q)] _ _ _ _
    refine pm_i_lt (t := 31) pm_a195_12 rfl ⟨by omega, by omega⟩ (fun h_1 => ?_) (fun h_1 => ?_)
    · skip
      show pm_E _ _ _ 31 [(0, .ref 18), (1, .int (iI q))] [] _ _ _ _
      exact k q hz h0 h1 hq (fun z => by omega)
    · skip
      show pm_E _ _ _ 15 [(0, .ref 18), (1, .int (iI q))] [] _ _ _ _
      refine pm_e_sim pm_a195_15 rfl ?_
      show pm_E _ _ _ 16 [(0, .ref 18), (1, .int (iI q))] [.ref 18] _ _ _ _
      refine pm_i_get pm_a195_16 rfl (mh_get (j := 0) hA rfl) rfl ?_
      show pm_E _ _ _ 19 [(0, .ref 18), (1, .int (iI q))] [.ref 22] _ _ _ _
      refine pm_e_sim pm_a195_19 rfl ?_
      show pm_E _ _ _ 20 [(0, .ref 18), (1, .int (iI q))] [.int (iI q), .ref 22] _ _ _ _
      refine pm_i_ald pm_a195_20 (mh_get (j := 4) hA rfl) (by omega) (by omega) ⟨by omega, by omega⟩ ?_
      show pm_E _ _ _ 21 [(0, .ref 18), (1, .int (iI q))] [.int (iI ((a 4) (q)))] _ _ _ _
      refine pm_e_sim pm_a195_21 rfl ?_
      refine pm_e_top (y := iI 1) (by decide +kernel) ?_
      show pm_E _ _ _ 22 [(0, .ref 18), (1, .int (iI q))] [.int (iI 1), .int (iI ((a 4) (q)))] _ _ _ _
      refine pm_c_eq (t := 31) pm_a195_22 rfl ⟨by omega, by omega⟩ ⟨by omega, by omega⟩ (fun h_2 => ?_) (fun h_2 => ?_)
      · skip
        show pm_E _ _ _ 31 [(0, .ref 18), (1, .int (iI q))] [] _ _ _ _
        exact k q hz h0 h1 hq (fun z => by omega)
      · skip
        show pm_E _ _ _ 25 [(0, .ref 18), (1, .int (iI q))] [] _ _ _ _
        refine pm_e_inc (y := iI (q + (-1))) pm_a195_25 rfl (iI_add _ _) (by decide +kernel) rfl ?_
        show pm_E _ _ _ 28 [(0, .ref 18), (1, .int (iI (q + (-1))))] [] _ _ _ _
        refine pm_e_goto pm_a195_28 rfl ?_
        show pm_E _ _ _ 11 [(0, .ref 18), (1, .int (iI (q + (-1))))] [] _ _ _ _
        exact ih (q + -1) (by omega) (by omega) (by omega) (fun j z y => if hj : j = q then (by rw [hj]; omega) else hq j (by omega) y) (by omega)
