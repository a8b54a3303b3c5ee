/-! READING: tokens, the reader's state, what is read: pure -/
def tok (b : Int → Int) (n i : Int) : Int × Int × Int × Int :=
  if n ≤ skp b n 600 i then (0, 0, skp b n 600 i, skp b n 600 i)
  else if 97 ≤ b (skp b n 600 i) ∧ b (skp b n 600 i) ≤ 122 then
    (if (rdl b 97 122 27 96 8 n (skp b n 600 i) 600 (skp b n 600 i) 0).1 - skp b n 600 i ≤ 8 then (1, (rdl b 97 122 27 96 8 n (skp b n 600 i) 600 (skp b n 600 i) 0).2, skp b n 600 i, (rdl b 97 122 27 96 8 n (skp b n 600 i) 600 (skp b n 600 i) 0).1) else (-1, 0, skp b n 600 i, skp b n 600 i))
  else if 48 ≤ b (skp b n 600 i) ∧ b (skp b n 600 i) ≤ 57 then
    (if (rdl b 48 57 10 48 2 n (skp b n 600 i) 600 (skp b n 600 i) 0).1 - skp b n 600 i ≤ 2 ∧ (rdl b 48 57 10 48 2 n (skp b n 600 i) 600 (skp b n 600 i) 0).2 ≤ 20 then (2, (rdl b 48 57 10 48 2 n (skp b n 600 i) 600 (skp b n 600 i) 0).2, skp b n 600 i, (rdl b 48 57 10 48 2 n (skp b n 600 i) 600 (skp b n 600 i) 0).1) else (-1, 0, skp b n 600 i, skp b n 600 i))
  else if lof (b (skp b n 600 i)) ≠ -4 then (3, lof (b (skp b n 600 i)), skp b n 600 i, skp b n 600 i + 1)
  else if b (skp b n 600 i) = 40 ∨ b (skp b n 600 i) = 41 ∨ b (skp b n 600 i) = 92 ∨ b (skp b n 600 i) = 46 then (4, b (skp b n 600 i), skp b n 600 i, skp b n 600 i + 1)
  else (-1, 0, skp b n 600 i, skp b n 600 i)
abbrev Lev : Type := Int × Int × List Int
abbrev PS : Type := List Lev × List Int × Int × Int
def pPart : List Lev → List Lev
  | [] => []
  | x :: r => (x.1, x.2.1 + 1, x.2.2) :: r
def pAdd (L : List Lev) (i : Int) : List Lev := match L with
  | [] => []
  | x :: r => (x.1, x.2.1, x.2.2 ++ [i]) :: r
def pPop (x : Lev) : List Lev → List Int → Lev × List Lev × List Int
  | [], ns => (x, [], ns)
  | y :: r, ns => if 0 < x.1 then pPop (y.1, y.2.1, y.2.2 ++ ([-x.2.1] ++ x.2.2)) r (ns.drop x.1.toNat) else (x, y :: r, ns)
def nP : List Lev → Int
  | [] => 0
  | x :: r => (if x.1 = 0 then 1 else 0) + nP r
def pfind (v : Int) : List Int → Int → Option Int
  | [], _ => none
  | x :: r, k => if x = v then some k else pfind v r (k + 1)
def pClose (L : List Lev) (ns : List Int) : Option PS := match L with
  | [] => none
  | x :: r => if x.2.1 = 0 then none else match pPop x r ns with
    | (y, z :: r2, ns2) => if y.1 = 0 then some ((z.1, z.2.1, z.2.2 ++ ([-y.2.1] ++ y.2.2)) :: r2, ns2, 0, 0) else none
    | (_, [], _) => none
def pst (S : PS) (k v : Int) : Option PS :=
  if S.2.2.1 = 0 then
    if k = 1 then (pfind v S.2.1 0).map (fun j => (pAdd (pPart S.1) (10 + j), S.2.1, 0, 0))
    else if k = 2 then some (pAdd (pPart S.1) (1000 + v), S.2.1, 0, 0)
    else if k = 3 then some (pAdd (pPart S.1) v, S.2.1, 0, 0)
    else if k = 4 ∧ v = 40 then (if (S.2.1.length : Int) + nP S.1 = 40 then none else some ((0, 0, []) :: pPart S.1, S.2.1, 0, 0))
    else if k = 4 ∧ v = 92 then some (pPart S.1, S.2.1, 1, 0)
    else if k = 4 ∧ v = 41 then pClose S.1 S.2.1
    else none
  else if k = 1 then (if (S.2.1.length : Int) + nP S.1 = 40 then none else some (pAdd S.1 1, v :: S.2.1, 2, S.2.2.2 + 1))
  else if S.2.2.1 = 2 ∧ k = 4 ∧ v = 46 then some ((S.2.2.2, 0, []) :: S.1, S.2.1, 0, 0)
  else none
def pEnd (S : PS) : Option (List Int) := if S.2.2.1 = 0 then (match S.1 with
  | [] => none
  | x :: r => if x.2.1 = 0 then none else match pPop x r S.2.1 with
    | (y, [], _) => if y.1 < 0 then some ([-y.2.1] ++ y.2.2) else none
    | (_, _ :: _, _) => none) else none
/-- what comes of reading: a fault and its place, or the items -/
abbrev PR : Type := Sum (Int × Int) (List Int)
def pft (S : PS) (k v : Int) : Int := if S.2.2.1 = 0 then (if k = 1 then 3 else if k = 4 ∧ v = 40 then 4 else 2) else if k = 1 then 4 else 2
theorem pft_1 {S : PS} {k v : Int} (h : S.2.2.1 = 0) (hk : k = 1) : pft S k v = 3 := by unfold pft; rw [if_pos h, if_pos hk]
theorem pft_4 {S : PS} {k v : Int} (h : S.2.2.1 = 0) (hk : k = 4) (hv : v = 40) : pft S k v = 4 := by unfold pft; rw [if_pos h, if_neg (by omega), if_pos ⟨hk, hv⟩]
theorem pft_o {S : PS} {k v : Int} (h : S.2.2.1 = 0) (hk : k ≠ 1) (hv : ¬ (k = 4 ∧ v = 40)) : pft S k v = 2 := by unfold pft; rw [if_pos h, if_neg hk, if_neg hv]
theorem pft_h1 {S : PS} {k v : Int} (h : S.2.2.1 ≠ 0) (hk : k = 1) : pft S k v = 4 := by unfold pft; rw [if_neg h, if_pos hk]
theorem pft_h {S : PS} {k v : Int} (h : S.2.2.1 ≠ 0) (hk : k ≠ 1) : pft S k v = 2 := by unfold pft; rw [if_neg h, if_neg hk]
def pEn (S : PS) (p : Int) : PR := match pEnd S with
  | none => .inl (2, p)
  | some t => .inr t
theorem pEn_n {S : PS} {p : Int} (h : pEnd S = none) : pEn S p = .inl (2, p) := by unfold pEn; rw [h]
theorem pEn_s {S : PS} {p : Int} {t : List Int} (h : pEnd S = some t) : pEn S p = .inr t := by unfold pEn; rw [h]
def prs (b : Int → Int) (n : Int) : Nat → PS → Int → PR
  | 0, _, _ => .inl (0, 0)
  | f + 1, S, i => if (tok b n i).1 = -1 then .inl (1, (tok b n i).2.2.1) else if (tok b n i).1 = 0 then pEn S (tok b n i).2.2.1 else match pst S (tok b n i).1 (tok b n i).2.1 with
    | none => .inl (pft S (tok b n i).1 (tok b n i).2.1, (tok b n i).2.2.1)
    | some S' => prs b n f S' (tok b n i).2.2.2
def prN (b : Int → Int) (n : Int) (S : PS) (i : Int) : PR := prs b n ((n - i).toNat + 1) S i
theorem skp_bl {b : Int → Int} {n : Int} : ∀ (f : Nat) (i : Int), i ≤ n → n ≤ i + f → skp b n f i = n ∨ (skp b n f i < n ∧ b (skp b n f i) ≠ 32) := by
  intro f
  induction f with
  | zero => intro i h1 h2; left; rw [skp_n (Or.inl (by omega))]; omega
  | succ f ih =>
    intro i h1 h2
    by_cases h : i < n ∧ b i = 32
    · rw [skp_y h.1 h.2]; exact ih (i + 1) (by omega) (by omega)
    · by_cases h3 : i < n
      · rw [skp_n (Or.inr (fun z => h ⟨h3, z⟩))]
        exact Or.inr ⟨h3, fun z => h ⟨h3, z⟩⟩
      · rw [skp_n (Or.inl (by omega))]; left; omega
theorem rdl_more {g : Int → Int} {lo hi m z w n b : Int} {f : Nat} {i v : Int} (h : i < n) (h1 : lo ≤ g i) (h2 : g i ≤ hi) : i + 1 ≤ (rdl g lo hi m z w n b (f + 1) i v).1 := by
  by_cases h3 : i - b < w
  · rw [rdl_y h h1 h2 h3]; exact (rdl_le f (i + 1) _ (by omega)).1
  · rw [rdl_z h h1 h2 (by omega)]; exact (rdl_le f (i + 1) _ (by omega)).1
theorem rdl_stop {g : Int → Int} {lo hi m z w n b : Int} : ∀ (f : Nat) (i v : Int), i ≤ n → n ≤ i + f → (rdl g lo hi m z w n b f i v).1 = n ∨ ((rdl g lo hi m z w n b f i v).1 < n ∧ (g (rdl g lo hi m z w n b f i v).1 < lo ∨ hi < g (rdl g lo hi m z w n b f i v).1)) := by
  intro f
  induction f with
  | zero => intro i v h1 h2; left; rw [rdl_n (Or.inl (by omega))]; show i = n; omega
  | succ f ih =>
    intro i v h1 h2
    by_cases h : i < n ∧ lo ≤ g i ∧ g i ≤ hi
    · by_cases h3 : i - b < w
      · rw [rdl_y h.1 h.2.1 h.2.2 h3]; exact ih (i + 1) _ (by omega) (by omega)
      · rw [rdl_z h.1 h.2.1 h.2.2 (by omega)]; exact ih (i + 1) _ (by omega) (by omega)
    · by_cases h3 : i < n
      · rw [rdl_n (by omega)]; right; show i < n ∧ (g i < lo ∨ hi < g i); omega
      · rw [rdl_n (Or.inl (by omega))]; left; show i = n; omega
theorem tok_facts {b : Int → Int} {n i : Int} (h0 : 0 ≤ i) (h1 : i ≤ n) (hn : n ≤ 600) : -1 ≤ (tok b n i).1 ∧ (tok b n i).1 ≤ 4 ∧ i ≤ (tok b n i).2.2.1 ∧ (tok b n i).2.2.1 ≤ n ∧ (0 ≤ (tok b n i).1 → (tok b n i).2.2.1 ≤ (tok b n i).2.2.2 ∧ (tok b n i).2.2.2 ≤ n) ∧ (1 ≤ (tok b n i).1 → (tok b n i).2.2.1 < (tok b n i).2.2.2 ∧ (tok b n i).2.2.1 < n) ∧ ((tok b n i).1 = 2 → (tok b n i).2.1 ≤ 20 ∧ (tok b n i).2.2.2 - (tok b n i).2.2.1 ≤ 2 ∧ ((tok b n i).2.2.2 = n ∨ b (tok b n i).2.2.2 < 48 ∨ 57 < b (tok b n i).2.2.2) ∧ 48 ≤ b (tok b n i).2.2.1 ∧ b (tok b n i).2.2.1 ≤ 57) := by
  obtain ⟨k1, k2⟩ := skp_le (g := b) (n := n) 600 i h1
  unfold tok
  generalize skp b n 600 i = p at k1 k2
  by_cases c0 : n ≤ p
  · rw [if_pos c0]; refine ⟨?_, ?_, ?_, ?_, fun _ => ?_, fun z => ?_, fun z => ?_⟩ <;> simp at * <;> omega
  · rw [if_neg c0]
    by_cases c1 : 97 ≤ b p ∧ b p ≤ 122
    · rw [if_pos c1]
      have r1 := rdl_more (g := b) (lo := 97) (hi := 122) (m := 27) (z := 96) (w := 8) (n := n) (b := p) (f := 599) (i := p) (v := 0) (by omega) c1.1 c1.2
      have r2 := rdl_le (g := b) (lo := 97) (hi := 122) (m := 27) (z := 96) (w := 8) (n := n) (b := p) 600 p 0 (by omega)
      generalize rdl b 97 122 27 96 8 n p 600 p 0 = r at r1 r2
      split
      · refine ⟨?_, ?_, ?_, ?_, fun _ => ?_, fun _ => ?_, fun z => ?_⟩ <;> simp at * <;> omega
      · refine ⟨?_, ?_, ?_, ?_, fun z => ?_, fun z => ?_, fun z => ?_⟩ <;> simp at * <;> omega
    · rw [if_neg c1]
      by_cases c2 : 48 ≤ b p ∧ b p ≤ 57
      · rw [if_pos c2]
        have r1 := rdl_more (g := b) (lo := 48) (hi := 57) (m := 10) (z := 48) (w := 2) (n := n) (b := p) (f := 599) (i := p) (v := 0) (by omega) c2.1 c2.2
        have r2 := rdl_le (g := b) (lo := 48) (hi := 57) (m := 10) (z := 48) (w := 2) (n := n) (b := p) 600 p 0 (by omega)
        have r3 := rdl_stop (g := b) (lo := 48) (hi := 57) (m := 10) (z := 48) (w := 2) (n := n) (b := p) 600 p 0 (by omega) (by omega)
        generalize rdl b 48 57 10 48 2 n p 600 p 0 = r at r1 r2 r3
        split
        · rename_i c3
          refine ⟨?_, ?_, ?_, ?_, fun _ => ?_, fun _ => ?_, fun z => ⟨c3.2, c3.1, ?_, c2.1, c2.2⟩⟩
          · simp
          · simp
          · simp; omega
          · simp; omega
          · simp; omega
          · simp; omega
          · show r.1 = n ∨ b r.1 < 48 ∨ 57 < b r.1; omega
        · refine ⟨?_, ?_, ?_, ?_, fun z => ?_, fun z => ?_, fun z => ?_⟩ <;> simp at * <;> omega
      · rw [if_neg c2]
        split
        · refine ⟨?_, ?_, ?_, ?_, fun _ => ?_, fun _ => ?_, fun z => ?_⟩ <;> simp at * <;> omega
        · split
          · refine ⟨?_, ?_, ?_, ?_, fun _ => ?_, fun _ => ?_, fun z => ?_⟩ <;> simp at * <;> omega
          · refine ⟨?_, ?_, ?_, ?_, fun z => ?_, fun z => ?_, fun z => ?_⟩ <;> simp at * <;> omega
theorem prs_fuel {b : Int → Int} {n : Int} (hn : n ≤ 600) : ∀ (m : Nat) {f f' : Nat} {S : PS} {i : Int}, 0 ≤ i → i ≤ n → (n - i).toNat = m → m + 1 ≤ f → m + 1 ≤ f' → prs b n f S i = prs b n f' S i := by
  intro m
  induction m using Nat.strongRecOn with
  | ind m ih =>
    intro f f' S i h0 h1 hm hf hf'
    obtain ⟨f, rfl⟩ : ∃ x, f = x + 1 := ⟨f - 1, by omega⟩
    obtain ⟨f', rfl⟩ : ∃ x, f' = x + 1 := ⟨f' - 1, by omega⟩
    unfold prs
    obtain ⟨t1, t2, t3, t4, t5, t6, _⟩ := tok_facts (b := b) h0 h1 hn
    by_cases c1 : (tok b n i).1 = -1
    · rw [if_pos c1, if_pos c1]
    · rw [if_neg c1, if_neg c1]
      by_cases c2 : (tok b n i).1 = 0
      · rw [if_pos c2, if_pos c2]
      · rw [if_neg c2, if_neg c2]
        cases pst S (tok b n i).1 (tok b n i).2.1 with
        | none => rfl
        | some S' =>
          have a1 := t5 (by omega); have a2 := t6 (by omega)
          exact ih (n - (tok b n i).2.2.2).toNat (by omega) (by omega) (by omega) rfl (by omega) (by omega)
theorem prN_step {b : Int → Int} {n i : Int} {S S' : PS} (hn : n ≤ 600) (h0 : 0 ≤ i) (h1 : i ≤ n) (hk : 1 ≤ (tok b n i).1) (hs : pst S (tok b n i).1 (tok b n i).2.1 = some S') : prN b n S i = prN b n S' (tok b n i).2.2.2 := by
  obtain ⟨t1, t2, t3, t4, t5, t6, _⟩ := tok_facts (b := b) h0 h1 hn
  have a1 := t5 (by omega); have a2 := t6 (by omega)
  show prs b n ((n - i).toNat + 1) S i = _
  unfold prs
  rw [if_neg (by omega), if_neg (by omega), hs]
  exact prs_fuel hn _ (by omega) (by omega) rfl (by omega) (by omega)
theorem prN_none {b : Int → Int} {n i : Int} {S : PS} (hk : 1 ≤ (tok b n i).1) (hs : pst S (tok b n i).1 (tok b n i).2.1 = none) : prN b n S i = .inl (pft S (tok b n i).1 (tok b n i).2.1, (tok b n i).2.2.1) := by
  show prs b n ((n - i).toNat + 1) S i = _
  unfold prs
  rw [if_neg (by omega), if_neg (by omega), hs]
theorem prN_bad {b : Int → Int} {n i : Int} {S : PS} (hk : (tok b n i).1 = -1) : prN b n S i = .inl (1, (tok b n i).2.2.1) := by
  show prs b n ((n - i).toNat + 1) S i = _
  unfold prs
  rw [if_pos hk]
theorem prN_end {b : Int → Int} {n i : Int} {S : PS} (hk : (tok b n i).1 = 0) : prN b n S i = pEn S (tok b n i).2.2.1 := by
  show prs b n ((n - i).toNat + 1) S i = _
  unfold prs
  rw [if_neg (by omega), if_pos hk]
theorem prN_nc {b : Int → Int} {n i c : Int} {S : PS} (hk : 1 ≤ (tok b n i).1) (hs : pst S (tok b n i).1 (tok b n i).2.1 = none) (hc : pft S (tok b n i).1 (tok b n i).2.1 = c) : prN b n S i = .inl (c, (tok b n i).2.2.1) := by rw [prN_none hk hs, hc]
/-- what an item stands for -/
def numc : Nat → List Int
  | 0 => [10]
  | v + 1 => 0 :: 11 :: numc v
def ex1 (i : Int) : List Int := if i < 0 then List.replicate (-i - 1).toNat 0 else if 1000 ≤ i then [1, 1] ++ numc (i - 1000).toNat else [i]
def exs (t : List Int) : List Int := t.flatMap ex1
theorem exs_app {t u : List Int} : exs (t ++ u) = exs t ++ exs u := List.flatMap_append
theorem exs_one {i : Int} : exs [i] = ex1 i := by simp [exs]
def flat : List Lev → List Int
  | [] => []
  | x :: r => flat r ++ (List.replicate (x.2.1 - 1).toNat 0 ++ exs x.2.2)
