/-! THE REFERENCE: stepped -/
theorem la_out {l : List Int} : ∀ {F : Int → Int} {n j : Int}, j < n → laL F n l j = F j := by
  induction l with
  | nil => intro F n j _; rfl
  | cons v l ih =>
    intro F n j h
    show laL _ (n + 1) l j = F j
    rw [ih (by omega)]
    by_cases hn : n < 12000
    · rw [if_pos hn, updI_n _ _ (by omega)]
    · rw [if_neg hn]
theorem la_rg {l : List Int} : ∀ {F : Int → Int} {n : Int}, n + l.length ≤ 12000 → rg (laL F n l) l.length n = l := by
  induction l with
  | nil => intro F n _; rfl
  | cons v l ih =>
    intro F n h
    rw [List.length_cons] at h
    show laL _ (n + 1) l n :: rg (laL _ (n + 1) l) l.length (n + 1) = v :: l
    rw [ih (by omega), la_out (by omega), if_pos (by omega), updI_s]
theorem rg_cp {g F : Int → Int} {N : Nat} : rg (cpI g F 0 0 N) N 0 = rg F N 0 := rg_eq (fun j z y => by unfold cpI; rw [if_pos ⟨z, by omega⟩, show (0 : Int) + j = j by omega])
/-- what a step may change: s 6, s 28, the rows 4, 5, 6, 15, 16; rows 4 and 16 hold ints -/
def fr1 (s : Nat → Int) (a : Nat → Int → Int) (s' : Nat → Int) (a' : Nat → Int → Int) : Prop := (∀ j, j ≠ 6 → j ≠ 28 → s' j = s j) ∧ (∀ j, j ≠ 4 → j ≠ 5 → j ≠ 6 → j ≠ 15 → j ≠ 16 → a' j = a j) ∧ (∀ j, in32 (a' 4 j)) ∧ ∀ j, in32 (a' 16 j)
theorem rg_mem {g : Int → Int} : ∀ {n : Nat} {i v : Int}, v ∈ rg g n i → ∃ j, i ≤ j ∧ j < i + n ∧ v = g j := by
  intro n
  induction n with
  | zero => intro i v h; exact absurd h List.not_mem_nil
  | succ n ih =>
    intro i v h
    rcases List.mem_cons.mp (show v ∈ g i :: rg g n (i + 1) from h) with h | h
    · exact ⟨i, by omega, by omega, h⟩
    · obtain ⟨j, h1, h2, h3⟩ := ih h
      exact ⟨j, by omega, by omega, h3⟩
theorem tL_in {f : Nat} : ∀ {k : Int} {l : List Int}, 0 ≤ k → tL f k l → ∀ v ∈ l, 0 ≤ v ∧ v < 10 + k + f := by
  induction f with
  | zero => intro k l _ h; exact h.elim
  | succ f ih =>
    intro k l hk h v hv
    rcases h with ⟨l1, l2, h0, h1, h2⟩ | ⟨l1, h0, h1⟩ | ⟨c, h0, h1, h2⟩
    · subst h0
      rcases List.mem_cons.mp hv with hv | hv
      · omega
      · rcases List.mem_append.mp hv with hv | hv
        · have := ih hk h1 v hv; omega
        · have := ih hk h2 v hv; omega
    · subst h0
      rcases List.mem_cons.mp hv with hv | hv
      · omega
      · have := ih (by omega) h1 v hv; omega
    · subst h0
      have := List.mem_singleton.mp hv
      omega
theorem tL_small {f : Nat} : ∀ {k : Int} {l : List Int}, tL f k l → tL l.length k l := by
  induction f with
  | zero => intro k l h; exact h.elim
  | succ f ih =>
    intro k l h
    rcases h with ⟨l1, l2, h0, h1, h2⟩ | ⟨l1, h0, h1⟩ | ⟨c, h0, h1, h2⟩
    · subst h0
      rw [List.length_cons, List.length_append]
      exact Or.inl ⟨l1, l2, rfl, tL_le (by omega) (ih h1), tL_le (by omega) (ih h2)⟩
    · subst h0
      exact Or.inr (Or.inl ⟨l1, rfl, ih h1⟩)
    · subst h0
      exact Or.inr (Or.inr ⟨c, rfl, h1, h2⟩)
theorem tm_bd {g : Int → Int} {f : Nat} {k p e : Int} (h : tm g f k p e) (hk : 0 ≤ k) : ∀ j, p ≤ j → j < e → 0 ≤ g j ∧ g j < 10 + k + (e - p) := by
  intro j h1 h2
  have := tm_in hk (tm_small h _ (Nat.le_refl _)) j h1 h2
  omega
set_option maxHeartbeats 4000000 in
set_option maxRecDepth 100000 in
theorem M_stepped_c {d : Nat} {A B : List va_E} {s : Nat → Int} {vl : Int64} {nm : Nat → Int64} {Q : Option Value → List va_E → Nat → Nat → Prop} {w p : Int} (hA : A.length = 18) (h6 : s 6 ≤ 500) : ∀ (f : Nat) (i : Int) (a : Nat → Int → Int), 0 ≤ i → i ≤ s 6 → Q (some (.int (iI 1))) (mh A s vl (updA a 4 (cpI (a 4) (a 15) 0 i (s 6))) nm B) 0 0 → s 6 - i < (f : Int) → pm_E none d pm_mm178 67 [(0, .ref 18), (1, .int (iI w)), (2, .int (iI p)), (3, .int (iI i))] [] (mh A s vl a nm B) 0 0 Q := by
  intro f
  induction f with
  | zero =>
    intro i a h0 h1 k hf
    exfalso; omega
  | succ f ih =>
    intro i a h0 h1 k hf
    refine pm_e_sim pm_a178_67 rfl ?_
    show pm_E _ _ _ 68 [(0, .ref 18), (1, .int (iI w)), (2, .int (iI p)), (3, .int (iI i))] [.int (iI i)] _ _ _ _
    refine pm_e_sim pm_a178_68 rfl ?_
    show pm_E _ _ _ 69 [(0, .ref 18), (1, .int (iI w)), (2, .int (iI p)), (3, .int (iI i))] [.ref 18, .int (iI i)] _ _ _ _
    refine pm_i_get pm_a178_69 rfl (mh_get (j := 0) hA rfl) rfl ?_
    show pm_E _ _ _ 72 [(0, .ref 18), (1, .int (iI w)), (2, .int (iI p)), (3, .int (iI i))] [.int (iI (s 6)), .int (iI i)] _ _ _ _
    refine pm_c_ge (t := 93) pm_a178_72 rfl ⟨by omega, by omega⟩ ⟨by omega, by omega⟩ (fun h_1 => ?_) (fun h_1 => ?_)
    · skip
      show pm_E _ _ _ 93 [(0, .ref 18), (1, .int (iI w)), (2, .int (iI p)), (3, .int (iI i))] [] _ _ _ _
      refine pm_e_sim pm_a178_93 rfl ?_
      refine pm_e_top (y := iI 1) (by decide +kernel) ?_
      show pm_E _ _ _ 94 [(0, .ref 18), (1, .int (iI w)), (2, .int (iI p)), (3, .int (iI i))] [.int (iI 1)] _ _ _ _
      refine pm_e_ret pm_a178_94 rfl rfl rfl rfl rfl rfl rfl rfl ?_
      rw [cpI_0 (by omega), updA_self] at k
      exact k
    · skip
      show pm_E _ _ _ 75 [(0, .ref 18), (1, .int (iI w)), (2, .int (iI p)), (3, .int (iI i))] [] _ _ _ _
      refine pm_e_sim pm_a178_75 rfl ?_
      show pm_E _ _ _ 76 [(0, .ref 18), (1, .int (iI w)), (2, .int (iI p)), (3, .int (iI i))] [.ref 18] _ _ _ _
      refine pm_i_get pm_a178_76 rfl (mh_get (j := 0) hA rfl) rfl ?_
      show pm_E _ _ _ 79 [(0, .ref 18), (1, .int (iI w)), (2, .int (iI p)), (3, .int (iI i))] [.ref 22] _ _ _ _
      refine pm_e_sim pm_a178_79 rfl ?_
      show pm_E _ _ _ 80 [(0, .ref 18), (1, .int (iI w)), (2, .int (iI p)), (3, .int (iI i))] [.int (iI i), .ref 22] _ _ _ _
      refine pm_e_sim pm_a178_80 rfl ?_
      show pm_E _ _ _ 81 [(0, .ref 18), (1, .int (iI w)), (2, .int (iI p)), (3, .int (iI i))] [.ref 18, .int (iI i), .ref 22] _ _ _ _
      refine pm_i_get pm_a178_81 rfl (mh_get (j := 0) hA rfl) rfl ?_
      show pm_E _ _ _ 84 [(0, .ref 18), (1, .int (iI w)), (2, .int (iI p)), (3, .int (iI i))] [.ref 33, .int (iI i), .ref 22] _ _ _ _
      refine pm_e_sim pm_a178_84 rfl ?_
      show pm_E _ _ _ 85 [(0, .ref 18), (1, .int (iI w)), (2, .int (iI p)), (3, .int (iI i))] [.int (iI i), .ref 33, .int (iI i), .ref 22] _ _ _ _
      refine pm_i_ald pm_a178_85 (mh_get (j := 15) hA rfl) (by omega) (by omega) ⟨by omega, by omega⟩ ?_
      show pm_E _ _ _ 86 [(0, .ref 18), (1, .int (iI w)), (2, .int (iI p)), (3, .int (iI i))] [.int (iI ((a 15) (i))), .int (iI i), .ref 22] _ _ _ _
      refine pm_i_ast pm_a178_86 (mh_get (j := 4) hA rfl) (by omega) (by omega) ⟨by omega, by omega⟩ (ma_4 hA _) ?_
      show pm_E _ _ _ 87 [(0, .ref 18), (1, .int (iI w)), (2, .int (iI p)), (3, .int (iI i))] [] _ _ _ _
      refine pm_e_inc (y := iI (i + 1)) pm_a178_87 rfl (iI_add _ _) (by decide +kernel) rfl ?_
      show pm_E _ _ _ 90 [(0, .ref 18), (1, .int (iI w)), (2, .int (iI p)), (3, .int (iI (i + 1)))] [] _ _ _ _
      refine pm_e_goto pm_a178_90 rfl ?_
      show pm_E _ _ _ 67 [(0, .ref 18), (1, .int (iI w)), (2, .int (iI p)), (3, .int (iI (i + 1)))] [] _ _ _ _
      refine ih (i + 1) _ (by omega) (by omega) ?_ (by omega)
      rw [updA_s]
      show Q _ (mh A s vl (updA a 4 (cpI (updI (a 4) i (a 15 i)) (a 15) 0 (i + 1) (s 6))) nm B) 0 0
      rw [cp0_step (by omega)]
      exact k
theorem u4_of {a : Nat → Int → Int} {D P : Int → Int} : updA (updA a 5 D) 6 P = u4 a D P (a 16) (a 15) := by
  funext j
  unfold updA u4
  by_cases h6 : j = 6
  · subst h6; rfl
  · rw [if_neg h6]
    by_cases h5 : j = 5
    · rw [if_pos h5, if_pos h5]
    · rw [if_neg h5, if_neg h5, if_neg h6]
      by_cases h16 : j = 16
      · subst h16; rfl
      · rw [if_neg h16]
        by_cases h15 : j = 15
        · subst h15; rfl
        · rw [if_neg h15]
theorem la_mem {l : List Int} : ∀ {F : Int → Int} {n : Int}, n + l.length ≤ 12000 → ∀ j, n ≤ j → j < n + l.length → laL F n l j ∈ l := by
  induction l with
  | nil => intro F n _ j h1 h2; exfalso; simp only [List.length_nil] at h2; omega
  | cons v l ih =>
    intro F n h j h1 h2
    rw [List.length_cons] at h h2
    show laL _ (n + 1) l j ∈ v :: l
    by_cases hj : j = n
    · subst hj
      rw [la_out (by omega), if_pos (by omega), updI_s]
      exact List.mem_cons_self
    · exact List.mem_cons_of_mem _ (ih (by omega) j (by omega) (by omega))
theorem bet_len {g D q : Int → Int} {u : Int} {ne : Nat} : ∀ {n : Nat} {i : Int}, (bet g D q u ne n i).length ≤ n * (ne + 1) := by
  intro n
  induction n with
  | zero => intro i; show 0 ≤ _; omega
  | succ n ih =>
    intro i
    show (bpc g D q u ne i ++ bet g D q u ne n (i + 1)).length ≤ _
    have h1 : (bpc g D q u ne i).length ≤ ne + 1 := by
      unfold bpc
      split
      · rw [rg_len]; omega
      · split
        · show 1 ≤ _; omega
        · show 1 ≤ _; omega
    have := ih (i := i + 1)
    rw [List.length_append, Nat.succ_mul]
    omega
theorem bec_len {g : Int → Int} {w p e k : Int} {f : Nat} {l : List Int} (t : tm g f k p e) (hp : 0 ≤ p) (he : e ≤ 500) (hc : cnd g w p) (hb : bec g w p e l) : (l.length : Int) ≤ 300000 := by
  have lt := tm_lt t
  have h0 : w ≠ 3 → g p = 0 := fun hw => by
    rcases hc with ⟨h, _⟩ | ⟨_, h, _⟩
    · exact absurd h hw
    · exact (rdx_c h).1
  rcases hb with ⟨hw, m, f1, k1, q, t1, q1, rfl⟩ | ⟨hw, h1, u, f1, k1, f2, k2, D, q, t1, t2, q1, q2, rfl⟩ | ⟨hw, h1, rfl⟩ | ⟨hw, h1, h2, m, f1, k1, t1, rfl⟩ | ⟨hw, h1, h2, h3, b, c, f1, k1, t1, t2, t3, rfl⟩
  · rcases hc with ⟨_, h1, h2, _⟩ | ⟨h, _⟩
    · obtain ⟨f3, t3, _⟩ := tm_lam t h1
      obtain ⟨f4, m2, t4, t5, _⟩ := tm_app t3 h2
      rw [show p + 1 + 1 = p + 2 by omega] at t4
      have e1 := tm_one t4 t1
      subst e1
      have := tm_lt t5
      rw [rg_len]; omega
    · exact absurd hw h
  · have l1 := tm_lt t1; have l2 := tm_lt t2
    have h2 := bet_len (g := g) (D := D) (q := q) (u := u) (ne := (e - u).toNat) (n := (u - (p + 2)).toNat) (i := p + 2)
    have h3 : (u - (p + 2)).toNat * ((e - u).toNat + 1) ≤ 500 * 501 := Nat.mul_le_mul (by omega) (by omega)
    omega
  · rw [rg_len]; omega
  · obtain ⟨f3, m', t3, t4⟩ := red_K t (h0 hw) h1 h2
    have e1 := tm_one t3 t1
    subst e1
    have := tm_lt t4
    rw [rg_len]; omega
  · have := tm_lt t1; have := tm_lt t2; have := tm_lt t3
    simp only [List.length_append, List.length_cons, List.length_nil, rg_len]
    omega
set_option maxHeartbeats 4000000 in
set_option maxRecDepth 100000 in
theorem M_stepped {d : Nat} {A B : List va_E} {s : Nat → Int} {vl : Int64} {a : Nat → Int → Int} {nm : Nat → Int64} {Q : Option Value → List va_E → Nat → Nat → Prop} {w kk : Int} {ff : Nat} (hA : A.length = 18) (hr : ∀ j, in32 (a 4 j)) (hq : ∀ j, in32 (a 16 j)) (hz : s 6 ≤ 500) (ht : tm (a 4) ff kk 0 (s 6)) (hkk : 0 ≤ kk) (hk9 : kk ≤ 1000) (hw0 : 0 ≤ w) (hw1 : w ≤ 3) (k0 : nrx (a 4) (s 6) w (-4) → ∀ s' a', fr1 s a s' a' → s' 6 = s 6 → a' 4 = a 4 → Q (some (.int (iI 0))) (mh A s' vl a' nm B) 0 0) (k3 : ∀ r e f1 k1 l, nrx (a 4) (s 6) w r → 0 ≤ r → tm (a 4) f1 k1 r e → bec (a 4) w r e l → 500 < (rg (a 4) r.toNat 0 ++ l ++ rg (a 4) (s 6 - e).toNat e).length → ∀ s' a', fr1 s a s' a' → s' 6 = s 6 → a' 4 = a 4 → Q (some (.int (iI (-3)))) (mh A s' vl a' nm B) 0 0) (k1 : ∀ r e f1 k1 l, nrx (a 4) (s 6) w r → 0 ≤ r → tm (a 4) f1 k1 r e → bec (a 4) w r e l → (rg (a 4) r.toNat 0 ++ l ++ rg (a 4) (s 6 - e).toNat e).length ≤ 500 → ∀ s' a', fr1 s a s' a' → s' 6 = ((rg (a 4) r.toNat 0 ++ l ++ rg (a 4) (s 6 - e).toNat e).length : Int) → rg (a' 4) (rg (a 4) r.toNat 0 ++ l ++ rg (a 4) (s 6 - e).toNat e).length 0 = rg (a 4) r.toNat 0 ++ l ++ rg (a 4) (s 6 - e).toNat e → Q (some (.int (iI 1))) (mh A s' vl a' nm B) 0 0) : pm_E none (d + 4) pm_mm178 0 [(0, .ref 18), (1, .int (iI w))] [] (mh A s vl a nm B) 0 0 Q := by
  have hlt := tm_lt ht
  have hb : ∀ j, 0 ≤ j → j < s 6 → 0 ≤ a 4 j ∧ a 4 j ≤ 100000 := fun j z y => by have := tm_bd ht hkk j z y; omega
  refine pm_e_sim pm_a178_0 rfl ?_
  show pm_E _ _ _ 1 [(0, .ref 18), (1, .int (iI w))] [.ref 18] _ _ _ _
  refine pm_e_sim pm_a178_1 rfl ?_
  show pm_E _ _ _ 2 [(0, .ref 18), (1, .int (iI w))] [.int (iI w), .ref 18] _ _ _ _
  refine pm_i_callv (k := 18) (T2 := pm_mm179) pm_a178_2 rfl rfl rfl (mh_get (j := 0) hA rfl) ⟨Nat.le_of_ble_eq_true rfl, Nat.le_of_ble_eq_true rfl, rfl, by decide +kernel⟩ ?_
  show pm_E none _ _ 0 [(0, .ref 18), (1, .int (iI w))] [] _ _ _ _
  refine M_nextRedex hA hr (by omega) ht hb hw0 hw1 (fun r P D hn => ?_)
  have hrr : r = -4 ∨ (0 ≤ r ∧ r < s 6 ∧ cnd (a 4) w r) := hn.elim (fun z => Or.inl z.1) (fun z => Or.inr ⟨z.1, z.2.1, z.2.2.1⟩)
  show pm_E _ _ _ 5 [(0, .ref 18), (1, .int (iI w))] [.int (iI r)] _ _ _ _
  refine pm_e_sim pm_a178_5 rfl ?_
  show pm_E _ _ _ 6 [(0, .ref 18), (1, .int (iI w)), (2, .int (iI r))] [] _ _ _ _
  refine pm_e_sim pm_a178_6 rfl ?_
  show pm_E _ _ _ 7 [(0, .ref 18), (1, .int (iI w)), (2, .int (iI r))] [.int (iI r)] _ _ _ _
  refine pm_e_sim pm_a178_7 rfl ?_
  refine pm_e_top (y := iI (-4)) (by decide +kernel) ?_
  show pm_E _ _ _ 9 [(0, .ref 18), (1, .int (iI w)), (2, .int (iI r))] [.int (iI (-4)), .int (iI r)] _ _ _ _
  refine pm_c_ne (t := 14) pm_a178_9 rfl ⟨by omega, by omega⟩ ⟨by omega, by omega⟩ (fun h_1 => ?_) (fun h_1 => ?_)
  · skip
    show pm_E _ _ _ 14 [(0, .ref 18), (1, .int (iI w)), (2, .int (iI r))] [] _ _ _ _
    refine pm_e_sim pm_a178_14 rfl ?_
    show pm_E _ _ _ 15 [(0, .ref 18), (1, .int (iI w)), (2, .int (iI r))] [.ref 18] _ _ _ _
    refine pm_e_sim pm_a178_15 rfl ?_
    refine pm_e_top (y := iI 0) (by decide +kernel) ?_
    show pm_E _ _ _ 16 [(0, .ref 18), (1, .int (iI w)), (2, .int (iI r))] [.int (iI 0), .ref 18] _ _ _ _
    refine pm_i_put pm_a178_16 rfl (mh_get (j := 0) hA rfl) rfl (Nat.le_of_ble_eq_true rfl) (Or.inl rfl) (mw_28 hA _) ?_
    show pm_E _ _ _ 19 [(0, .ref 18), (1, .int (iI w)), (2, .int (iI r))] [] _ _ _ _
    refine pm_e_sim pm_a178_19 rfl ?_
    show pm_E _ _ _ 20 [(0, .ref 18), (1, .int (iI w)), (2, .int (iI r))] [.ref 18] _ _ _ _
    refine pm_e_sim pm_a178_20 rfl ?_
    refine pm_e_top (y := iI 0) (by decide +kernel) ?_
    show pm_E _ _ _ 21 [(0, .ref 18), (1, .int (iI w)), (2, .int (iI r))] [.int (iI 0), .ref 18] _ _ _ _
    refine pm_e_sim pm_a178_21 rfl ?_
    show pm_E _ _ _ 22 [(0, .ref 18), (1, .int (iI w)), (2, .int (iI r))] [.int (iI r), .int (iI 0), .ref 18] _ _ _ _
    refine pm_i_callv (k := 18) (T2 := pm_mm184) pm_a178_22 rfl rfl rfl (mh_get (j := 0) hA rfl) ⟨Nat.le_of_ble_eq_true rfl, Nat.le_of_ble_eq_true rfl, rfl, by decide +kernel⟩ ?_
    show pm_E none _ _ 0 [(0, .ref 18), (1, .int (iI 0)), (2, .int (iI r))] [] _ _ _ _
    obtain ⟨hp0, hp1, hc⟩ : 0 ≤ r ∧ r < s 6 ∧ cnd (a 4) w r := hrr.elim (fun z => absurd z (by omega)) id
    obtain ⟨fp, kp, e, tp, he, hk1, hk2, _⟩ := tm_sub ht r hp0 hp1
    have hpe := tm_lt tp
    refine pm_e_heap (show _ = mh A (updS s 28 0) vl (u4 a D P (a 16) (a 15)) nm B from by rw [u4_of]) ?_
    refine M_addAllT hA (by omega) (by omega) (by omega) (by omega) (by omega) ?_
    refine pm_e_heap (show _ = mh A (updS s 28 r) vl (u4 a D P (a 16) (laL (a 15) 0 (rg (a 4) r.toNat 0))) nm B from by rw [show (0 : Int) + (r - 0) = r by omega, show (r - 0).toNat = r.toNat by omega]) ?_
    show pm_E _ _ _ 25 [(0, .ref 18), (1, .int (iI w)), (2, .int (iI r))] [] _ _ _ _
    refine pm_e_sim pm_a178_25 rfl ?_
    show pm_E _ _ _ 26 [(0, .ref 18), (1, .int (iI w)), (2, .int (iI r))] [.ref 18] _ _ _ _
    refine pm_e_sim pm_a178_26 rfl ?_
    show pm_E _ _ _ 27 [(0, .ref 18), (1, .int (iI w)), (2, .int (iI r))] [.int (iI r), .ref 18] _ _ _ _
    refine pm_e_sim pm_a178_27 rfl ?_
    show pm_E _ _ _ 28 [(0, .ref 18), (1, .int (iI w)), (2, .int (iI r))] [.int (iI w), .int (iI r), .ref 18] _ _ _ _
    refine pm_i_callv (k := 18) (T2 := pm_mm186) pm_a178_28 rfl rfl rfl (mh_get (j := 0) hA rfl) ⟨Nat.le_of_ble_eq_true rfl, Nat.le_of_ble_eq_true rfl, rfl, by decide +kernel⟩ ?_
    show pm_E none _ _ 0 [(0, .ref 18), (1, .int (iI r)), (2, .int (iI w))] [] _ _ _ _
    refine M_becomes hA hr tp (fun z => ?_) (fun z => ?_) hw0 hw1 hp0 (by omega) (fun j z y => hb j (by omega) (by omega)) hq (by omega) (by omega) (fun D1 P1 q1 l N bl hq1 hN => ?_)
    · exact hc.elim (fun h => h.2) (fun h => absurd z h.1)
    · exact hc.elim (fun h => absurd h.1 z) (fun h => h.2.1)
    have hl9 := bec_len tp hp0 (by omega) hc bl
    refine pm_e_heap (show _ = mh A (updS s 28 N) vl (u4 a D1 P1 q1 (laL (a 15) 0 (rg (a 4) r.toNat 0 ++ l))) nm B from by rw [laL_2 (by rw [rg_len]; omega)]) ?_
    show pm_E _ _ _ 31 [(0, .ref 18), (1, .int (iI w)), (2, .int (iI r))] [] _ _ _ _
    refine pm_e_sim pm_a178_31 rfl ?_
    show pm_E _ _ _ 32 [(0, .ref 18), (1, .int (iI w)), (2, .int (iI r))] [.ref 18] _ _ _ _
    refine pm_e_sim pm_a178_32 rfl ?_
    show pm_E _ _ _ 33 [(0, .ref 18), (1, .int (iI w)), (2, .int (iI r))] [.ref 18, .ref 18] _ _ _ _
    refine pm_e_sim pm_a178_33 rfl ?_
    show pm_E _ _ _ 34 [(0, .ref 18), (1, .int (iI w)), (2, .int (iI r))] [.int (iI r), .ref 18, .ref 18] _ _ _ _
    refine pm_i_callv (k := 18) (T2 := pm_mm170) pm_a178_34 rfl rfl rfl (mh_get (j := 0) hA rfl) ⟨Nat.le_of_ble_eq_true rfl, Nat.le_of_ble_eq_true rfl, rfl, by decide +kernel⟩ ?_
    show pm_E none _ _ 0 [(0, .ref 18), (1, .int (iI r))] [] _ _ _ _
    refine M_endT (a := u4 a D1 P1 q1 _) hA hr tp (by omega) (by omega) ?_
    show pm_E _ _ _ 37 [(0, .ref 18), (1, .int (iI w)), (2, .int (iI r))] [.int (iI e), .ref 18] _ _ _ _
    refine pm_e_sim pm_a178_37 rfl ?_
    show pm_E _ _ _ 38 [(0, .ref 18), (1, .int (iI w)), (2, .int (iI r))] [.ref 18, .int (iI e), .ref 18] _ _ _ _
    refine pm_i_get pm_a178_38 rfl (mh_get (j := 0) hA rfl) rfl ?_
    show pm_E _ _ _ 41 [(0, .ref 18), (1, .int (iI w)), (2, .int (iI r))] [.int (iI (s 6)), .int (iI e), .ref 18] _ _ _ _
    refine pm_i_callv (k := 18) (T2 := pm_mm184) pm_a178_41 rfl rfl rfl (mh_get (j := 0) hA rfl) ⟨Nat.le_of_ble_eq_true rfl, Nat.le_of_ble_eq_true rfl, rfl, by decide +kernel⟩ ?_
    show pm_E none _ _ 0 [(0, .ref 18), (1, .int (iI e)), (2, .int (iI (s 6)))] [] _ _ _ _
    refine M_addAllT hA (by omega) (by omega) (by omega) (by omega) (by omega) ?_
    have hN2 : N + (s 6 - e) = ((rg (a 4) r.toNat 0 ++ l ++ rg (a 4) (s 6 - e).toNat e).length : Int) := by rw [List.length_append, List.length_append, rg_len, rg_len]; omega
    rw [laL_2 (show N = (0 : Int) + ((rg (a 4) r.toNat 0 ++ l).length : Int) by rw [List.length_append, rg_len]; omega), hN2]
    have hin : ∀ v ∈ rg (a 4) r.toNat 0 ++ l ++ rg (a 4) (s 6 - e).toNat e, in32 v := by
      obtain ⟨F, hF⟩ := step_tL ht hkk hp0 hp1 tp hc bl
      intro v hv
      have h2 := tL_in hkk (tL_small hF) v hv
      rw [List.length_append, List.length_append, rg_len, rg_len] at h2
      constructor <;> omega
    generalize hL : rg (a 4) r.toNat 0 ++ l ++ rg (a 4) (s 6 - e).toNat e = M
    have k1 := k1 r e fp kp l hn hp0 tp bl
    have k3 := k3 r e fp kp l hn hp0 tp bl
    rw [hL] at k1 k3 hin
    have hM : (M.length : Int) ≤ 1000000 := by rw [← hL, List.length_append, List.length_append, rg_len, rg_len]; omega
    show pm_E _ _ _ 44 [(0, .ref 18), (1, .int (iI w)), (2, .int (iI r))] [] _ _ _ _
    refine pm_e_sim pm_a178_44 rfl ?_
    show pm_E _ _ _ 45 [(0, .ref 18), (1, .int (iI w)), (2, .int (iI r))] [.ref 18] _ _ _ _
    refine pm_i_get pm_a178_45 rfl (mh_get (j := 0) hA rfl) rfl ?_
    show pm_E _ _ _ 48 [(0, .ref 18), (1, .int (iI w)), (2, .int (iI r))] [.int (iI ((M.length : Int)))] _ _ _ _
    refine pm_e_sim pm_a178_48 rfl ?_
    refine pm_e_top (y := iI 500) (by decide +kernel) ?_
    show pm_E _ _ _ 51 [(0, .ref 18), (1, .int (iI w)), (2, .int (iI r))] [.int (iI 500), .int (iI ((M.length : Int)))] _ _ _ _
    refine pm_c_le (t := 57) pm_a178_51 rfl ⟨by omega, by omega⟩ ⟨by omega, by omega⟩ (fun h_2 => ?_) (fun h_2 => ?_)
    · skip
      show pm_E _ _ _ 57 [(0, .ref 18), (1, .int (iI w)), (2, .int (iI r))] [] _ _ _ _
      refine pm_e_sim pm_a178_57 rfl ?_
      show pm_E _ _ _ 58 [(0, .ref 18), (1, .int (iI w)), (2, .int (iI r))] [.ref 18] _ _ _ _
      refine pm_e_sim pm_a178_58 rfl ?_
      show pm_E _ _ _ 59 [(0, .ref 18), (1, .int (iI w)), (2, .int (iI r))] [.ref 18, .ref 18] _ _ _ _
      refine pm_i_get pm_a178_59 rfl (mh_get (j := 0) hA rfl) rfl ?_
      show pm_E _ _ _ 62 [(0, .ref 18), (1, .int (iI w)), (2, .int (iI r))] [.int (iI ((M.length : Int))), .ref 18] _ _ _ _
      refine pm_i_put pm_a178_62 rfl (mh_get (j := 0) hA rfl) rfl (Nat.le_of_ble_eq_true rfl) (Or.inl rfl) (mw_6 hA _) ?_
      show pm_E _ _ _ 65 [(0, .ref 18), (1, .int (iI w)), (2, .int (iI r))] [] _ _ _ _
      refine pm_e_sim pm_a178_65 rfl ?_
      refine pm_e_top (y := iI 0) (by decide +kernel) ?_
      show pm_E _ _ _ 66 [(0, .ref 18), (1, .int (iI w)), (2, .int (iI r))] [.int (iI 0)] _ _ _ _
      refine pm_e_sim pm_a178_66 rfl ?_
      show pm_E _ _ _ 67 [(0, .ref 18), (1, .int (iI w)), (2, .int (iI r)), (3, .int (iI 0))] [] _ _ _ _
      have hMn : M.length ≤ 500 := by omega
      refine M_stepped_c (s := updS (updS s 28 (M.length : Int)) 6 (M.length : Int)) hA (show (M.length : Int) ≤ 500 by omega) (M.length + 1) 0 _ (by omega) (show (0 : Int) ≤ (M.length : Int) by omega) ?_ (show (M.length : Int) - 0 < _ by omega)
      refine k1 hMn _ _ ⟨fun j h6 h28 => by simp [updS, h6, h28], fun j h4 h5 h6 h15 h16 => by simp [updA, u4, h4, h5, h6, h15, h16], ?_, hq1⟩ rfl ?_
      · intro j
        show in32 (cpI (a 4) (laL (a 15) 0 M) 0 0 (M.length : Int) j)
        unfold cpI
        split
        · rename_i hj
          have := rg_at (g := laL (a 15) 0 M) (g' := laL (a 15) 0 M) (n := M.length) (p := 0) (p' := 0) rfl j
          have hmem := la_mem (F := a 15) (l := M) (n := 0) (by omega) j (by omega) (by omega)
          have hi := hin _ hmem
          rw [show (0 : Int) + j = j by omega] at *
          exact hi
        · exact hr j
      · show rg (cpI (a 4) (laL (a 15) 0 M) 0 0 (M.length : Int)) M.length 0 = M
        rw [rg_cp, la_rg (by omega)]
    · skip
      show pm_E _ _ _ 54 [(0, .ref 18), (1, .int (iI w)), (2, .int (iI r))] [] _ _ _ _
      refine pm_e_sim pm_a178_54 rfl ?_
      refine pm_e_top (y := iI (-3)) (by decide +kernel) ?_
      show pm_E _ _ _ 56 [(0, .ref 18), (1, .int (iI w)), (2, .int (iI r))] [.int (iI (-3))] _ _ _ _
      refine pm_e_ret pm_a178_56 rfl rfl rfl rfl rfl rfl rfl rfl ?_
      refine k3 (by omega) _ _ ⟨fun j h6 h28 => by simp [updS, h28], fun j h4 h5 h6 h15 h16 => by simp [u4, h5, h6, h15, h16], hr, hq1⟩ rfl rfl
  · skip
    show pm_E _ _ _ 12 [(0, .ref 18), (1, .int (iI w)), (2, .int (iI r))] [] _ _ _ _
    refine pm_e_sim pm_a178_12 rfl ?_
    refine pm_e_top (y := iI 0) (by decide +kernel) ?_
    show pm_E _ _ _ 13 [(0, .ref 18), (1, .int (iI w)), (2, .int (iI r))] [.int (iI 0)] _ _ _ _
    refine pm_e_ret pm_a178_13 rfl rfl rfl rfl rfl rfl rfl rfl ?_
    have hr4 : r = -4 := by omega
    subst hr4
    exact k0 hn _ _ ⟨fun j h6 h28 => rfl, fun j h4 h5 h6 h15 h16 => by simp [updA, h5, h6], hr, hq⟩ rfl rfl
