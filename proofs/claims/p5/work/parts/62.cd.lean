/-! THE CLASS: Abstracter: putAbstracted -/
theorem ab_shift {g g' : Int → Int} {o : Int} : ∀ {f : Nat} {p e : Int} {r : List Int}, p < e → (∀ j, p ≤ j → j < e → g' (j + o) = g j) → ab g f p e r → ab g' f (p + o) (e + o) r := by
  intro f
  induction f with
  | zero => intro p e r _ _ h; exact h.elim
  | succ f ih =>
    intro p e r hpe hg h
    have gp := hg p (by omega) hpe
    have ls : ∀ {a b : Int}, p ≤ a → b ≤ e → rg (lsI g') (b - a).toNat (a + o) = rg (lsI g) (b - a).toNat a := fun {a b} ha hb => rg_congr (fun j z y => by unfold lsI; rw [hg j (by omega) (by omega)])
    have no : ∀ {a b : Int}, p ≤ a → b ≤ e → (∀ j, a ≤ j → j < b → g j ≠ 10) → ∀ j, a + o ≤ j → j < b + o → g' j ≠ 10 := fun {a b} ha hb hn j z y => by
      have := hg (j - o) (by omega) (by omega)
      rw [show j - o + o = j by omega] at this
      rw [this]; exact hn (j - o) (by omega) (by omega)
    rcases h with ⟨h0, h1, h2⟩ | ⟨h0, h1, h2⟩ | ⟨h0, ⟨j, j1, j2, j3⟩, v, ⟨fa, ka, ta⟩, ⟨fb, kb, tb⟩, h⟩
    · exact Or.inl ⟨by rw [gp]; exact h0, by omega, h2⟩
    · refine Or.inr (Or.inl ⟨by rw [gp]; exact h0, no (by omega) (by omega) h1, ?_⟩)
      rw [h2, show e + o - (p + o) = e - p by omega, ls (by omega) (by omega)]
    · have l1 := tm_lt ta; have l2 := tm_lt tb
      have gv := hg v (by omega) (by omega)
      have e1 : p + o + 1 = p + 1 + o := by omega
      have tm1 := tm_congr (o := o) (fun j z y => hg j (by omega) (by omega)) ta
      have tm2 := tm_congr (o := o) (fun j z y => hg j (by omega) (by omega)) tb
      refine Or.inr (Or.inr ⟨by rw [gp]; exact h0, ⟨j + o, by omega, by omega, by rw [hg j j1 j2]; exact j3⟩, v + o, ⟨fa, ka, by rw [e1]; exact tm1⟩, ⟨fb, kb, tm2⟩, ?_⟩)
      rcases h with ⟨a1, a2, a3⟩ | ⟨a1, r1, r2, b1, b2, a3⟩
      · refine Or.inl ⟨by rw [gv]; exact a1, fun j z y => no (a := p + 1) (b := v) (by omega) (by omega) a2 j (by omega) y, ?_⟩
        rw [a3, e1, show v + o - (p + 1 + o) = v - (p + 1) by omega, ls (by omega) (by omega)]
      · refine Or.inr ⟨fun hh => a1 ⟨by rw [← gv]; exact hh.1, fun j z y => ?_⟩, r1, r2, by rw [e1]; exact ih l1 (fun j z y => hg j (by omega) (by omega)) b1, ih l2 (fun j z y => hg j (by omega) (by omega)) b2, a3⟩
        rw [← hg j (by omega) (by omega)]
        exact hh.2 (j + o) (by omega) (by omega)
theorem C_pab_l {d n : Nat} {kd pl : Nat → Nat} {s : Nat → Int} {a : Nat → Int → Int} {c : Nat → cdt} {M : List va_E} {Q : Option Value → List va_E → Nat → Nat → Prop} (hW : wf n kd pl) (h200 : al n kd pl 200) (hok : okx (rm 2) (c 2)) (hg : ∀ q, 0 ≤ q → q < (c 2).1 → 0 ≤ (c 2).2.2 q ∧ (c 2).2.2 q ≤ 100000) (hG : mt (c 2).2.2 (a 8) (c 2).1) (hen : en (c 2).2.2 (a 1) 0 (c 2).1) : ∀ (f : Nat) {k p e : Int}, tm (c 2).2.2 f k p e → (∀ j, p ≤ j → j < e → (c 2).2.2 j ≠ 1) → 0 ≤ p → e ≤ (c 2).1 → ∀ (l : List Int) (x : cdt), md x (rm 3) l → x.2.1 = 0 → (∀ x' r, ab (c 2).2.2 f p e r → md x' (rm 3) (l ++ r) → x'.2.1 = 0 → pm_E none (d + 2) pm_mm100 9 [(0, .ref (pl 200)), (1, .int (iI e))] [] (ch n kd pl s a (updC c 3 x') M) 0 0 Q) → (∀ x' r, ab (c 2).2.2 f p e r → md x' (rm 3) (l ++ r) → x'.2.1 ≠ 0 → Q none (ch n kd pl s a (updC c 3 x') M) 0 0) → pm_E none (d + 2) pm_mm100 9 [(0, .ref (pl 200)), (1, .int (iI p))] [] (ch n kd pl s a (updC c 3 x) M) 0 0 Q := by
  intro f
  induction f with
  | zero => intro k p e t; exact t.elim
  | succ f ih =>
    intro k p e t h1 hp he l x hl ho kc ko
    have lt := tm_lt t
    have r2 : rm 2 = 502 := rfl
    have o2 := hok.2.1
    obtain ⟨fx, kx, tx⟩ := hen p hp (by omega)
    have hE := tm_one tx t
    have hvv : (c 2).2.2 p = 0 → ∃ m, tm (c 2).2.2 f k (p + 1) m ∧ tm (c 2).2.2 f k m e ∧ a 1 (p + 1) = m := fun h0 => by
      rcases id t with ⟨_, m, t1, t2⟩ | ⟨z, _⟩ | ⟨z, _⟩
      · have l1 := tm_lt t1; have l2 := tm_lt t2
        obtain ⟨fy, ky, ty⟩ := hen (p + 1) (by omega) (by omega)
        exact ⟨m, t1, t2, tm_one ty t1⟩
      · omega
      · omega
    have fin : ∀ y r, ab (c 2).2.2 (f + 1) p e r → md y (rm 3) (l ++ r) → pm_E none (d + 2) pm_mm100 9 [(0, .ref (pl 200)), (1, .int (iI e))] [] (ch n kd pl s a (updC c 3 y) M) 0 0 Q := fun y r ha hy => by
      by_cases hov : y.2.1 = 0
      · exact kc y r ha hy hov
      · exact C_pab_x hW h200 ⟨by omega, by omega⟩ hok hy.1 (Or.inl hov) (ko y r ha hy hov)
    refine C_pab_1 hW h200 hok hg hG hp lt he hE (fun h0 => ?_) hl ho (fun m0 y hy => ?_) (fun m1 hn y hy => ?_) (fun m1 h0 h10 hv m0 y hy => ?_) (fun m1 h0 hno y hy => ?_)
    · obtain ⟨m, t1, t2, hm⟩ := hvv h0
      have l1 := tm_lt t1; have l2 := tm_lt t2
      omega
    · refine fin y _ (Or.inr (Or.inl ⟨m0 p (by omega) lt, m0, rfl⟩)) ?_
      rw [List.append_assoc, List.append_assoc] at hy
      exact hy
    · rcases id t with ⟨z, _⟩ | ⟨z, _⟩ | ⟨z, _, z2⟩
      · exact absurd z hn
      · exact absurd z (h1 p (by omega) lt)
      · obtain ⟨j, j1, j2, j3⟩ := m1
        have : j = p := by omega
        subst this
        exact fin y _ (Or.inl ⟨j3, z2, rfl⟩) hy
    · obtain ⟨m, t1, t2, hm⟩ := hvv h0
      have e9 : e - 1 = m := by omega
      rw [e9] at hy h10 m0
      exact fin y _ (Or.inr (Or.inr ⟨h0, m1, m, ⟨_, _, t1⟩, ⟨_, _, t2⟩, Or.inl ⟨h10, m0, rfl⟩⟩)) hy
    · obtain ⟨m, t1, t2, hm⟩ := hvv h0
      have l1 := tm_lt t1; have l2 := tm_lt t2
      have hn : ¬ ((c 2).2.2 m = 10 ∧ ∀ j, p + 1 ≤ j → j < m → (c 2).2.2 j ≠ 10) := fun ⟨z1, z2⟩ => by
        have em : e = m + 1 := by
          cases f with
          | zero => exact t2.elim
          | succ f => rcases id t2 with ⟨z, _⟩ | ⟨z, _⟩ | ⟨_, _, z⟩ <;> omega
        have e9 : e - 1 = m := by omega
        rw [e9] at hno
        exact hno ⟨z1, hm, z2⟩
      have mk : ∀ r1 r2, ab (c 2).2.2 f (p + 1) m r1 → ab (c 2).2.2 f m e r2 → ab (c 2).2.2 (f + 1) p e ([0, 0, 2] ++ r1 ++ r2) := fun r1 r2 a1 a2 => Or.inr (Or.inr ⟨h0, m1, m, ⟨_, _, t1⟩, ⟨_, _, t2⟩, Or.inr ⟨hn, r1, r2, a1, a2, rfl⟩⟩)
      have ca : ∀ r1 r2, l ++ [0] ++ [0] ++ [2] ++ r1 ++ r2 = l ++ ([0, 0, 2] ++ r1 ++ r2) := fun r1 r2 => by simp
      have n1 : ∀ j, p + 1 ≤ j → j < m → (c 2).2.2 j ≠ 1 := fun j z y => h1 j (by omega) (by omega)
      have n2 : ∀ j, m ≤ j → j < e → (c 2).2.2 j ≠ 1 := fun j z y => h1 j (by omega) (by omega)
      obtain ⟨q2, hq2⟩ := ab_ex t2 n2
      by_cases hov : y.2.1 = 0
      · refine ih t1 n1 (by omega) (by omega) _ y hy hov (fun x1 r1 a1 hx1 ho1 => ?_) (fun x1 r1 a1 hx1 ho1 => ?_)
        · refine ih t2 n2 (by omega) he _ x1 hx1 ho1 (fun x2 r2 a2 hx2 ho2 => ?_) (fun x2 r2 a2 hx2 ho2 => ?_)
          · exact kc x2 _ (mk r1 r2 a1 a2) (by rw [← ca]; exact hx2) ho2
          · exact ko x2 _ (mk r1 r2 a1 a2) (by rw [← ca]; exact hx2) ho2
        · exact ko x1 _ (mk r1 q2 a1 hq2) (by rw [← ca]; exact md_over hx1 ho1) ho1
      · obtain ⟨q1, hq1⟩ := ab_ex t1 n1
        exact C_pab_x hW h200 ⟨by omega, by omega⟩ hok hy.1 (Or.inl hov) (ko y _ (mk q1 q2 hq1 hq2) (by rw [← ca]; exact md_over (md_over hy hov) hov) hov)
set_option maxHeartbeats 4000000 in
set_option maxRecDepth 100000 in
theorem C_putAbstracted {d n : Nat} {kd pl : Nat → Nat} {s : Nat → Int} {a : Nat → Int → Int} {c : Nat → cdt} {M : List va_E} {Q : Option Value → List va_E → Nat → Nat → Prop} {f : Nat} {kk : Int} (hW : wf n kd pl) (h200 : al n kd pl 200) (hok : okx (rm 2) (c 2)) (ho3 : okx (rm 3) (c 3)) (hg : ∀ q, 0 ≤ q → q < (c 2).1 → 0 ≤ (c 2).2.2 q ∧ (c 2).2.2 q ≤ 100000) (hG : mt (c 2).2.2 (a 8) (c 2).1) (hen : en (c 2).2.2 (a 1) 0 (c 2).1) (ht : tm (c 2).2.2 f kk 0 (c 2).1) (hn : ∀ j, 0 ≤ j → j < (c 2).1 → (c 2).2.2 j ≠ 1) (k : ∀ x r, ab (c 2).2.2 f 0 (c 2).1 r → md x (rm 3) r → Q none (ch n kd pl s a (updC c 3 x) M) 0 0) : pm_E none (d + 2) pm_mm100 0 [(0, .ref (pl 200))] [] (ch n kd pl s a c M) 0 0 Q := by
  have lt := tm_lt ht
  have r2 : rm 2 = 502 := rfl
  have o2 := hok.2.1
  refine pm_e_sim pm_a100_0 rfl ?_
  show pm_E _ _ _ 1 [(0, .ref (pl 200))] [.ref (pl 200)] _ _ _ _
  refine pm_i_get pm_a100_1 rfl (cg_200 hW h200) rfl ?_
  show pm_E _ _ _ 4 [(0, .ref (pl 200))] [.ref (pl (60 + 2 * 3))] _ _ _ _
  refine pm_i_callv (k := (pl (60 + 2 * 3))) (T2 := pm_mm13) pm_a100_4 rfl rfl rfl (cg_o (cj3 hW h200)) ⟨Nat.le_of_ble_eq_true rfl, Nat.le_of_ble_eq_true rfl, rfl, by decide +kernel⟩ ?_
  show pm_E none _ _ 0 [(0, .ref (pl (60 + 2 * 3)))] [] _ _ _ _
  refine C_clear hW (cj3 hW h200) ho3 (fun x hx => ?_)
  show pm_E _ _ _ 7 [(0, .ref (pl 200))] [] _ _ _ _
  refine pm_e_sim pm_a100_7 rfl ?_
  refine pm_e_top (y := iI 0) (by decide +kernel) ?_
  show pm_E _ _ _ 8 [(0, .ref (pl 200))] [.int (iI 0)] _ _ _ _
  refine pm_e_sim pm_a100_8 rfl ?_
  show pm_E _ _ _ 9 [(0, .ref (pl 200)), (1, .int (iI 0))] [] _ _ _ _
  have hx0 : x.2.1 = 0 := by rcases hx.2 with ⟨_, z, _⟩ | ⟨z, _⟩; exact z; exact absurd z (Nat.not_lt_zero _)
  refine C_pab_l hW h200 hok hg hG hen f ht hn (by omega) (by omega) [] x hx hx0 (fun x1 r h1 h2 h3 => ?_) (fun x1 r h1 h2 h3 => k x1 r h1 h2)
  exact C_pab_x hW h200 ⟨by omega, by omega⟩ hok h2.1 (Or.inr (by omega)) (k x1 r h1 h2)
