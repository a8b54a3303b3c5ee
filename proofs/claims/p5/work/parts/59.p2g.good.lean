/-! READING: what is read is a term -/
def sq (F : Nat) (k : Int) : Nat → List Int → Prop
  | 0, l => l = []
  | c + 1, l => ∃ l1 l2, l = l1 ++ l2 ∧ sq F k c l1 ∧ tL F k l2
theorem sq_le {F F' : Nat} {k : Int} (h : F ≤ F') : ∀ {c : Nat} {l : List Int}, sq F k c l → sq F' k c l
  | 0, _, h1 => h1
  | _ + 1, _, ⟨l1, l2, h1, h2, h3⟩ => ⟨l1, l2, h1, sq_le h h2, tL_le h h3⟩
theorem sq_snoc {F F2 : Nat} {k : Int} {c : Nat} {l u : List Int} (h : sq F k c l) (t : tL F2 k u) : sq (F + F2) k (c + 1) (l ++ u) := ⟨l, u, rfl, sq_le (by omega) h, tL_le (by omega) t⟩
theorem app_tL {F : Nat} {k : Int} : ∀ {c : Nat} {l : List Int}, sq F k (c + 1) l → tL (F + c) k (List.replicate c 0 ++ l)
  | 0, l, ⟨l1, l2, h1, h2, h3⟩ => by
    rw [show l1 = [] from h2] at h1
    subst h1
    exact h3
  | c + 1, l, ⟨l1, l2, h1, h2, h3⟩ => by
    subst h1
    have ih := app_tL h2
    rw [List.replicate_succ]
    refine Or.inl ⟨List.replicate c 0 ++ l1, l2, ?_, ih, tL_le (f := F) (f' := F + c) (Nat.le_add_right _ _) h3⟩
    simp only [List.cons_append, List.append_assoc]
theorem lam_tL {l : List Int} : ∀ {m F : Nat} {k : Int}, tL F (k + m) l → tL (F + m) k (List.replicate m 1 ++ l)
  | 0, F, k, h => by rw [show k + ((0 : Nat) : Int) = k by omega] at h; exact h
  | m + 1, F, k, h => by
    rw [List.replicate_succ]
    refine Or.inr (Or.inl ⟨List.replicate m 1 ++ l, rfl, ?_⟩)
    have := lam_tL (l := l) (m := m) (F := F) (k := k + 1) (by rw [show k + 1 + (m : Int) = k + ((m + 1 : Nat) : Int) by omega]; exact h)
    exact this
theorem num_tL {k : Int} (hk : 0 ≤ k) : ∀ {v : Nat}, tL (v + 1) (k + 2) (numc v)
  | 0 => Or.inr (Or.inr ⟨10, rfl, by omega, by omega⟩)
  | v + 1 => by
    refine Or.inl ⟨[11], numc v, rfl, ?_, num_tL hk⟩
    exact Or.inr (Or.inr ⟨11, rfl, by omega, by omega⟩)
/-- the open rows hold terms; the top's last part has q lambdas in front and nothing behind them (q = -1: it is whole) -/
def gL : List Lev → Int → Int → Prop
  | [], _, _ => False
  | x :: r, k, q => 0 ≤ k ∧ 0 ≤ x.2.1 ∧ (q ≠ -1 → 1 ≤ x.2.1) ∧ (∃ F l1, exs x.2.2 = l1 ++ List.replicate q.toNat 1 ∧ sq F k (if q = -1 then x.2.1 else x.2.1 - 1).toNat l1) ∧ ((x.1 = -1 ∧ r = [] ∧ k = 0) ∨ (0 ≤ x.1 ∧ gL r (k - x.1) x.1))
def gd (S : PS) : Prop := 0 ≤ S.2.2.2 ∧ ((S.2.2.1 = 0 → S.2.2.2 = 0) ∧ (S.2.2.1 = 2 → 1 ≤ S.2.2.2)) ∧ (S.2.1.length : Int) + nP S.1 ≤ 40 ∧ gL S.1 ((S.2.1.length : Int) - S.2.2.2) (if S.2.2.1 = 0 then -1 else S.2.2.2)
theorem gL_new {x : Lev} {r : List Lev} {k i : Int} {F2 : Nat} (h : gL (x :: r) k (-1)) (t : tL F2 k (ex1 i)) : gL ((x.1, x.2.1 + 1, x.2.2 ++ [i]) :: r) k (-1) := by
  obtain ⟨h0, h1, h2, ⟨F, l1, h3, h4⟩, h5⟩ := h
  refine ⟨h0, by show 0 ≤ x.2.1 + 1; omega, fun z => absurd rfl z, ⟨F + F2, l1 ++ ex1 i, ?_, ?_⟩, h5⟩
  · show exs (x.2.2 ++ [i]) = l1 ++ ex1 i ++ []
    rw [exs_app, exs_one, h3]
    show l1 ++ [] ++ ex1 i = _
    rw [List.append_nil, List.append_nil]
  · rw [if_pos rfl] at h4 ⊢
    show sq _ _ (x.2.1 + 1).toNat _
    rw [show (x.2.1 + 1).toNat = x.2.1.toNat + 1 by omega]
    exact sq_snoc h4 t
theorem gL_part {x : Lev} {r : List Lev} {k : Int} (h : gL (x :: r) k (-1)) : gL ((x.1, x.2.1 + 1, x.2.2) :: r) k 0 := by
  obtain ⟨h0, h1, h2, ⟨F, l1, h3, h4⟩, h5⟩ := h
  refine ⟨h0, by show 0 ≤ x.2.1 + 1; omega, fun _ => by show 1 ≤ x.2.1 + 1; omega, ⟨F, l1, h3, ?_⟩, h5⟩
  rw [if_pos rfl] at h4
  rw [if_neg (by decide)]
  show sq _ _ (x.2.1 + 1 - 1).toNat _
  rw [show x.2.1 + 1 - 1 = x.2.1 by omega]
  exact h4
/-- a row that ends goes into the one around it -/
theorem gL_pop {x y : Lev} {r : List Lev} {k : Int} (h : gL (x :: y :: r) k (-1)) (hc : 1 ≤ x.2.1) (hx : 0 ≤ x.1) : gL ((y.1, y.2.1, y.2.2 ++ ([-x.2.1] ++ x.2.2)) :: r) (k - x.1) (-1) := by
  obtain ⟨h0, h1, h2, ⟨F, l1, h3, h4⟩, h5⟩ := h
  rw [if_pos rfl] at h4
  rcases h5 with ⟨_, h5, _⟩ | ⟨_, h5⟩
  · cases h5
  · obtain ⟨g0, g1, g2, ⟨G, m1, g3, g4⟩, g5⟩ := h5
    have g2 := g2 (by omega)
    rw [if_neg (by omega)] at g4
    have hs : sq F k ((x.2.1 - 1).toNat + 1) l1 := by rw [show (x.2.1 - 1).toNat + 1 = x.2.1.toNat by omega]; exact h4
    have ht := lam_tL (l := List.replicate (x.2.1 - 1).toNat 0 ++ l1) (m := x.1.toNat) (F := F + (x.2.1 - 1).toNat) (k := k - x.1) (by rw [show k - x.1 + (x.1.toNat : Int) = k by omega]; exact app_tL hs)
    refine ⟨g0, g1, fun z => absurd rfl z, ⟨G + (F + (x.2.1 - 1).toNat + x.1.toNat), m1 ++ (List.replicate x.1.toNat 1 ++ (List.replicate (x.2.1 - 1).toNat 0 ++ l1)), ?_, ?_⟩, g5⟩
    · show exs (y.2.2 ++ ([-x.2.1] ++ x.2.2)) = _ ++ []
      rw [exs_app, exs_app, exs_one, g3, h3, List.append_nil]
      show _ ++ (ex1 (-x.2.1) ++ (l1 ++ [])) = _
      have : ex1 (-x.2.1) = List.replicate (x.2.1 - 1).toNat 0 := by
        unfold ex1
        rw [if_pos (by omega), show - -x.2.1 - 1 = x.2.1 - 1 by omega]
      rw [this, List.append_nil]
      simp only [List.append_assoc]
    · rw [if_pos rfl]
      show sq _ _ y.2.1.toNat _
      rw [show y.2.1.toNat = (y.2.1 - 1).toNat + 1 by omega]
      exact sq_snoc g4 ht
theorem gL_pPop : ∀ {r : List Lev} {x : Lev} {ns : List Int}, gL (x :: r) ns.length (-1) → 1 ≤ x.2.1 → gL ((pPop x r ns).1 :: (pPop x r ns).2.1) (pPop x r ns).2.2.length (-1) ∧ 1 ≤ (pPop x r ns).1.2.1 ∧ ((pPop x r ns).1.1 ≤ 0)
  | [], x, ns, h, hc => by
    refine ⟨h, hc, ?_⟩
    obtain ⟨_, _, _, _, h5⟩ := h
    rcases h5 with ⟨h5, _⟩ | ⟨_, h5⟩
    · show x.1 ≤ 0; omega
    · exact h5.elim
  | y :: r, x, ns, h, hc => by
    unfold pPop
    split
    · rename_i hx
      have h9 := h
      obtain ⟨h0, h1, h2, h3, h5⟩ := h9
      rcases h5 with ⟨_, h5, _⟩ | ⟨_, h5⟩
      · cases h5
      · have g0 := h5.1
        have g2 := h5.2.2.1 (by omega)
        have hp := gL_pop h hc (by omega)
        have e : ((ns.drop x.1.toNat).length : Int) = ns.length - x.1 := by rw [List.length_drop]; omega
        exact gL_pPop (by rw [e]; exact hp) g2
    · rename_i hx
      exact ⟨h, hc, by show x.1 ≤ 0; omega⟩
theorem pfind_b {v : Int} : ∀ {ns : List Int} {k j : Int}, pfind v ns k = some j → k ≤ j ∧ j < k + ns.length
  | [], _, _, h => by cases h
  | x :: r, k, j, h => by
    have h' : (if x = v then some k else pfind v r (k + 1)) = some j := h
    split at h'
    · cases h'; rw [List.length_cons]; omega
    · have := pfind_b h'
      rw [List.length_cons]; omega
theorem nP_nn : ∀ {L : List Lev}, 0 ≤ nP L
  | [] => Int.le_refl 0
  | x :: r => by
    have := nP_nn (L := r)
    show 0 ≤ (if x.1 = 0 then 1 else 0) + nP r
    split <;> omega
theorem nP_pPop : ∀ {r : List Lev} {x : Lev} {ns : List Int}, (((pPop x r ns).2.2.length : Nat) : Int) + nP ((pPop x r ns).1 :: (pPop x r ns).2.1) ≤ (ns.length : Int) + nP (x :: r)
  | [], x, ns => Int.le_refl _
  | y :: r, x, ns => by
    unfold pPop
    split
    · rename_i hx
      have ih := nP_pPop (r := r) (x := (y.1, y.2.1, y.2.2 ++ ([-x.2.1] ++ x.2.2))) (ns := ns.drop x.1.toNat)
      have e1 : nP ((y.1, y.2.1, y.2.2 ++ ([-x.2.1] ++ x.2.2)) :: r) = nP (y :: r) := rfl
      have e2 : nP (x :: y :: r) = nP (y :: r) := by show (if x.1 = 0 then 1 else 0) + nP (y :: r) = _; rw [if_neg (by omega)]; omega
      have e3 : ((ns.drop x.1.toNat).length : Int) ≤ ns.length := by rw [List.length_drop]; omega
      omega
    · exact Int.le_refl _
theorem cell_ex {v : Int} (h : 0 ≤ v) (h1 : v < 1000) : ex1 v = [v] := by
  unfold ex1
  rw [if_neg (by omega), if_neg (by omega)]
theorem gd_0 : gd ([(-1, 0, [])], [], 0, 0) := ⟨Int.le_refl 0, ⟨fun _ => rfl, fun z => absurd (show (0 : Int) = 2 from z) (by decide)⟩, by decide, ⟨Int.le_refl 0, Int.le_refl 0, fun z => absurd rfl z, ⟨0, [], rfl, rfl⟩, Or.inl ⟨rfl, rfl, rfl⟩⟩⟩
theorem gd_pst {S S' : PS} {k v : Int} (h : gd S) (h2 : k = 2 → 0 ≤ v) (h3 : k = 3 → 2 ≤ v ∧ v ≤ 6) (hp : pst S k v = some S') : gd S' := by
  obtain ⟨L, ns, hd, m⟩ := S
  obtain ⟨hm, ⟨hm0, hm2⟩, hnb, hg⟩ := h
  dsimp only at hm hm0 hm2 hg hnb
  have hnn := nP_nn (L := L)
  unfold pst at hp
  dsimp only at hp
  cases L with
  | nil => exact hg.elim
  | cons x r =>
  have hk0 := hg.1
  by_cases e0 : hd = 0
  · have em := hm0 e0
    rw [if_pos e0, em, show (ns.length : Int) - 0 = ns.length by omega] at hg
    rw [if_pos e0] at hp
    have fin : ∀ i F2, tL F2 (ns.length : Int) (ex1 i) → gd (pAdd (pPart (x :: r)) i, ns, 0, 0) := fun i F2 t => ⟨Int.le_refl 0, ⟨fun _ => rfl, fun z => absurd (show (0 : Int) = 2 from z) (by decide)⟩, hnb, by
      show gL ((x.1, x.2.1 + 1, x.2.2 ++ [i]) :: r) ((ns.length : Int) - 0) (if (0 : Int) = 0 then -1 else 0)
      rw [if_pos rfl, show (ns.length : Int) - 0 = ns.length by omega]
      exact gL_new hg t⟩
    by_cases k1 : k = 1
    · rw [if_pos k1] at hp
      cases hf : pfind v ns 0 with
      | none => rw [hf] at hp; cases hp
      | some j =>
        rw [hf] at hp
        cases hp
        have := pfind_b hf
        refine fin (10 + j) 1 ?_
        rw [cell_ex (by omega) (by omega)]
        exact Or.inr (Or.inr ⟨10 + j, rfl, by omega, by omega⟩)
    rw [if_neg k1] at hp
    by_cases k2 : k = 2
    · rw [if_pos k2] at hp
      cases hp
      have hv := h2 k2
      refine fin (1000 + v) (v.toNat + 1 + 1 + 1) ?_
      unfold ex1
      rw [if_neg (by omega), if_pos (by omega), show (1000 + v - 1000).toNat = v.toNat by omega]
      refine Or.inr (Or.inl ⟨1 :: numc v.toNat, rfl, Or.inr (Or.inl ⟨numc v.toNat, rfl, ?_⟩)⟩)
      have := num_tL (k := (ns.length : Int)) (by omega) (v := v.toNat)
      rw [show (ns.length : Int) + 2 = ns.length + 1 + 1 by omega] at this
      exact this
    rw [if_neg k2] at hp
    by_cases k3 : k = 3
    · rw [if_pos k3] at hp
      cases hp
      have hv := h3 k3
      refine fin v 1 ?_
      rw [cell_ex (by omega) (by omega)]
      exact Or.inr (Or.inr ⟨v, rfl, by omega, by omega⟩)
    rw [if_neg k3] at hp
    by_cases k4 : k = 4 ∧ v = 40
    · rw [if_pos k4] at hp
      split at hp
      · cases hp
      · rename_i hne
        cases hp
        refine ⟨Int.le_refl 0, ⟨fun _ => rfl, fun z => absurd (show (0 : Int) = 2 from z) (by decide)⟩, ?_, ?_⟩
        · show (ns.length : Int) + ((if (0 : Int) = 0 then 1 else 0) + nP (x :: r)) ≤ 40
          rw [if_pos rfl]; omega
        · show gL ((0, 0, []) :: (x.1, x.2.1 + 1, x.2.2) :: r) ((ns.length : Int) - 0) (if (0 : Int) = 0 then -1 else 0)
          rw [if_pos rfl, show (ns.length : Int) - 0 = ns.length by omega]
          exact ⟨by omega, Int.le_refl 0, fun z => absurd rfl z, ⟨0, [], rfl, rfl⟩, Or.inr ⟨Int.le_refl 0, by rw [show (ns.length : Int) - 0 = ns.length by omega]; exact gL_part hg⟩⟩
    rw [if_neg k4] at hp
    by_cases k5 : k = 4 ∧ v = 92
    · rw [if_pos k5] at hp
      cases hp
      refine ⟨Int.le_refl 0, ⟨fun _ => rfl, fun z => absurd (show (1 : Int) = 2 from z) (by decide)⟩, hnb, ?_⟩
      show gL ((x.1, x.2.1 + 1, x.2.2) :: r) ((ns.length : Int) - 0) (if (1 : Int) = 0 then -1 else 0)
      rw [if_neg (by decide), show (ns.length : Int) - 0 = ns.length by omega]
      exact gL_part hg
    rw [if_neg k5] at hp
    by_cases k6 : k = 4 ∧ v = 41
    · rw [if_pos k6] at hp
      unfold pClose at hp
      dsimp only at hp
      split at hp
      · cases hp
      · rename_i hc
        have hc1 : 1 ≤ x.2.1 := by have := hg.2.1; omega
        obtain ⟨p1, p2, p3⟩ := gL_pPop hg hc1
        have pn := nP_pPop (x := x) (r := r) (ns := ns)
        generalize pPop x r ns = P at hp p1 p2 p3 pn
        obtain ⟨y, r2, ns2⟩ := P
        cases r2 with
        | nil => cases hp
        | cons z r3 =>
          dsimp only at hp p1 p2 p3 pn
          split at hp
          · rename_i hy
            cases hp
            have hpop := gL_pop p1 p2 (by omega)
            rw [show (ns2.length : Int) - y.1 = ns2.length by omega] at hpop
            refine ⟨Int.le_refl 0, ⟨fun _ => rfl, fun z => absurd (show (0 : Int) = 2 from z) (by decide)⟩, ?_, ?_⟩
            · have e1 : nP (y :: z :: r3) = 1 + nP (z :: r3) := by show (if y.1 = 0 then 1 else 0) + nP (z :: r3) = _; rw [if_pos hy]
              show (ns2.length : Int) + nP (z :: r3) ≤ 40
              omega
            · show gL ((z.1, z.2.1, z.2.2 ++ ([-y.2.1] ++ y.2.2)) :: r3) ((ns2.length : Int) - 0) (if (0 : Int) = 0 then -1 else 0)
              rw [if_pos rfl, show (ns2.length : Int) - 0 = ns2.length by omega]
              exact hpop
          · cases hp
    · rw [if_neg k6] at hp; cases hp
  · rw [if_neg e0] at hg hp
    by_cases k1 : k = 1
    · rw [if_pos k1] at hp
      split at hp
      · cases hp
      · rename_i hne
        cases hp
        refine ⟨by show 0 ≤ m + 1; omega, ⟨fun z => absurd (show (2 : Int) = 0 from z) (by decide), fun _ => by show 1 ≤ m + 1; omega⟩, ?_, ?_⟩
        · show ((ns.length + 1 : Nat) : Int) + nP (x :: r) ≤ 40; omega
        · show gL ((x.1, x.2.1, x.2.2 ++ [1]) :: r) (((ns.length + 1 : Nat) : Int) - (m + 1)) (if (2 : Int) = 0 then -1 else m + 1)
          rw [if_neg (by decide), show ((ns.length + 1 : Nat) : Int) - (m + 1) = ns.length - m by omega]
          obtain ⟨g0, g1, g2, ⟨F, l1, g3, g4⟩, g5⟩ := hg
          rw [if_neg (by omega)] at g4
          refine ⟨g0, g1, fun _ => g2 (by omega), ⟨F, l1, ?_, ?_⟩, g5⟩
          · show exs (x.2.2 ++ [1]) = _
            rw [exs_app, exs_one, g3, cell_ex (by omega) (by omega), show (m + 1).toNat = m.toNat + 1 by omega, List.replicate_succ', List.append_assoc]
          · rw [if_neg (by omega)]; exact g4
    · rw [if_neg k1] at hp
      split at hp
      · rename_i hq
        cases hp
        refine ⟨Int.le_refl 0, ⟨fun _ => rfl, fun z => absurd (show (0 : Int) = 2 from z) (by decide)⟩, ?_, ?_⟩
        · show (ns.length : Int) + ((if m = 0 then 1 else 0) + nP (x :: r)) ≤ 40
          have := hm2 hq.1
          rw [if_neg (by omega)]; omega
        · show gL ((m, 0, []) :: x :: r) ((ns.length : Int) - 0) (if (0 : Int) = 0 then -1 else 0)
          rw [if_pos rfl, show (ns.length : Int) - 0 = ns.length by omega]
          exact ⟨by omega, Int.le_refl 0, fun z => absurd rfl z, ⟨0, [], rfl, rfl⟩, Or.inr ⟨hm, hg⟩⟩
      · cases hp
theorem gd_end {S : PS} {t : List Int} (h : gd S) (he : pEnd S = some t) : ∃ F, tL F 0 (exs t) := by
  obtain ⟨L, ns, hd, m⟩ := S
  obtain ⟨hm, ⟨hm0, hm2⟩, hnb, hg⟩ := h
  dsimp only at hm hm0 hm2 hg hnb
  unfold pEnd at he
  dsimp only at he
  by_cases e0 : hd = 0
  · have em := hm0 e0
    rw [if_pos e0, em, show (ns.length : Int) - 0 = ns.length by omega] at hg
    rw [if_pos e0] at he
    cases L with
    | nil => exact hg.elim
    | cons x r =>
      dsimp only at he
      split at he
      · cases he
      · rename_i hc
        have hc1 : 1 ≤ x.2.1 := by have := hg.2.1; omega
        obtain ⟨p1, p2, p3⟩ := gL_pPop hg hc1
        generalize pPop x r ns = P at he p1 p2 p3
        obtain ⟨y, r2, ns2⟩ := P
        cases r2 with
        | cons z r3 => cases he
        | nil =>
          dsimp only at he p1 p2 p3
          split at he
          · rename_i hy
            cases he
            obtain ⟨g0, g1, g2, ⟨F, l1, g3, g4⟩, g5⟩ := p1
            rw [if_pos rfl] at g4
            have hk : (ns2.length : Int) = 0 := by
              rcases g5 with ⟨_, _, g5⟩ | ⟨g5, _⟩
              · exact g5
              · omega
            rw [hk] at g4
            have hs : sq F 0 ((y.2.1 - 1).toNat + 1) l1 := by rw [show (y.2.1 - 1).toNat + 1 = y.2.1.toNat by omega]; exact g4
            have : exs ([-y.2.1] ++ y.2.2) = List.replicate (y.2.1 - 1).toNat 0 ++ l1 := by
              rw [exs_app, exs_one, g3]
              have e1 : ex1 (-y.2.1) = List.replicate (y.2.1 - 1).toNat 0 := by
                unfold ex1
                rw [if_pos (by omega), show - -y.2.1 - 1 = y.2.1 - 1 by omega]
              rw [e1]
              show _ ++ (l1 ++ []) = _
              rw [List.append_nil]
            rw [this]
            exact ⟨_, app_tL hs⟩
          · cases he
  · rw [if_neg e0] at he; cases he
