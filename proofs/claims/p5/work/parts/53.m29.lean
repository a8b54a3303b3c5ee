/-! THE REFERENCE: the shelf as lists; redex, step, steps -/
def upT (T : Int → List Int) (x : Int) (l : List Int) : Int → List Int := fun t => if t = x then l else T t
/-- the shelf holds n terms, T t the code of the t-th -/
def sh (s : Nat → Int) (a : Nat → Int → Int) (n : Int) (T : Int → List Int) : Prop := s 0 = n ∧ ∀ t, 0 ≤ t → t < n → a 1 t = (T t).length ∧ rg (a 2) (T t).length (500 * t) = T t
def okT (n : Int) (T : Int → List Int) : Prop := 0 ≤ n ∧ n ≤ 32 ∧ ∀ t, 0 ≤ t → t < n → (T t).length ≤ 500 ∧ ∃ f, tL f 0 (T t)
theorem tL_pos {f : Nat} {k : Int} {l : List Int} (h : tL f k l) : 1 ≤ l.length := by
  cases f with
  | zero => exact h.elim
  | succ f =>
    rcases h with ⟨l1, l2, h0, _⟩ | ⟨l1, h0, _⟩ | ⟨c, h0, _⟩ <;> subst h0 <;> simp
theorem sh_keep {b : Nat → Int → Int} {n x : Int} {T : Int → List Int} {l : List Int} {g : Int → Int} (hx : 0 ≤ x) (hT : ∀ t, 0 ≤ t → t < n → t ≠ x → (T t).length ≤ 500 ∧ b 1 t = (T t).length ∧ rg (b 2) (T t).length (500 * t) = T t) (hl : l.length ≤ 500) (hg : rg g l.length 0 = l) {N : Int} (hN : N = l.length) : ∀ t, 0 ≤ t → t < n → (updA (updA b 1 (updI (b 1) x N)) 2 (cqI (b 2) g (500 * x) 0 N)) 1 t = (upT T x l t).length ∧ rg ((updA (updA b 1 (updI (b 1) x N)) 2 (cqI (b 2) g (500 * x) 0 N)) 2) (upT T x l t).length (500 * t) = upT T x l t := by
  intro t h0 h1
  subst hN
  show updI (b 1) x (l.length : Int) t = _ ∧ rg (cqI (b 2) g (500 * x) 0 (l.length : Int)) _ _ = _
  by_cases ht : t = x
  · subst ht
    have e : upT T t l t = l := by unfold upT; rw [if_pos rfl]
    rw [e, updI_s]
    refine ⟨rfl, ?_⟩
    have := rg_congr (g := g) (g' := cqI (b 2) g (500 * t) 0 (l.length : Int)) (n := l.length) (p := 0) (o := 500 * t) (fun j z y => by unfold cqI; rw [if_pos ⟨by omega, by omega⟩, show j + 500 * t - 500 * t = j by omega])
    rw [show (0 : Int) + 500 * t = 500 * t by omega] at this
    rw [this]; exact hg
  · have e : upT T x l t = T t := by unfold upT; rw [if_neg ht]
    obtain ⟨z1, z2, z3⟩ := hT t h0 h1 ht
    rw [e, updI_n _ _ ht]
    refine ⟨z2, ?_⟩
    rw [rg_eq (g := b 2) (fun j z y => by unfold cqI; rw [if_neg (by omega)])]
    exact z3
theorem okT_up {n x : Int} {T : Int → List Int} {l : List Int} {f : Nat} (h : okT n T) (hl : l.length ≤ 500) (hf : tL f 0 l) : okT n (upT T x l) := by
  refine ⟨h.1, h.2.1, fun t h0 h1 => ?_⟩
  unfold upT
  split
  · exact ⟨hl, f, hf⟩
  · exact h.2.2 t h0 h1
theorem sh_take {s : Nat → Int} {a : Nat → Int → Int} {n x : Int} {T : Int → List Int} (h : sh s a n T) (h0 : 0 ≤ x) (h1 : x < n) : rg (cpI (a 4) (a 2) (500 * x) 0 (a 1 x)) (T x).length 0 = T x := by
  obtain ⟨e1, e2⟩ := h.2 x h0 h1
  have := rg_congr (g := cpI (a 4) (a 2) (500 * x) 0 (a 1 x)) (g' := a 2) (n := (T x).length) (p := 0) (o := 500 * x) (fun j z y => by unfold cpI; rw [if_pos ⟨by omega, by omega⟩, show j + 500 * x = 500 * x + j by omega])
  rw [show (0 : Int) + 500 * x = 500 * x by omega, e2] at this
  exact this.symm
set_option maxHeartbeats 4000000 in
set_option maxRecDepth 100000 in
theorem M_redex {d : Nat} {A B : List va_E} {s : Nat → Int} {vl : Int64} {a : Nat → Int → Int} {nm : Nat → Int64} {Q : Option Value → List va_E → Nat → Nat → Prop} {n x : Int} {T : Int → List Int} {w : Int} (hA : A.length = 18) (hin : ∀ i j, in32 (a i j)) (hok : okT n T) (hsh : sh s a n T) (hx : in32 x) (hw : in32 w) (kb : (x < 0 ∨ n ≤ x ∨ w < 0 ∨ 3 < w) → Q (some (.int (iI (-1)))) (mh A s vl a nm B) 0 0) (k : 0 ≤ x → x < n → 0 ≤ w → w ≤ 3 → ∀ r s' a', (∃ g : Int → Int, rg g (T x).length 0 = T x ∧ nrx g (T x).length w r) → s' 0 = s 0 → (s' 4 = s 4 ∧ s' 45 = s 45 ∧ s' 30 = s 30 ∧ s' 31 = s 31 ∧ s' 13 = s 13) → a' 1 = a 1 → a' 2 = a 2 → a' 3 = a 3 → Q (some (.int (iI r))) (mh A s' vl a' nm B) 0 0) : pm_E none (d + 4) pm_mm191 0 [(0, .ref 18), (1, .int (iI x)), (2, .int (iI w))] [] (mh A s vl a nm B) 0 0 Q := by
  obtain ⟨on0, on1, okk⟩ := id hok
  have s0 := hsh.1
  refine pm_e_sim pm_a191_0 rfl ?_
  show pm_E _ _ _ 1 [(0, .ref 18), (1, .int (iI x)), (2, .int (iI w))] [.ref 18] _ _ _ _
  refine pm_e_sim pm_a191_1 rfl ?_
  show pm_E _ _ _ 2 [(0, .ref 18), (1, .int (iI x)), (2, .int (iI w))] [.int (iI x), .ref 18] _ _ _ _
  refine pm_i_callv (k := 18) (T2 := pm_mm165) pm_a191_2 rfl rfl rfl (mh_get (j := 0) hA rfl) ⟨Nat.le_of_ble_eq_true rfl, Nat.le_of_ble_eq_true rfl, rfl, by decide +kernel⟩ ?_
  show pm_E none _ _ 0 [(0, .ref 18), (1, .int (iI x))] [] _ _ _ _
  refine M_isTerm hA ⟨by omega, by omega⟩ (by omega) (by omega) (fun h_1 => ?_) (fun h_1 => ?_)
  · skip
    show pm_E _ _ _ 5 [(0, .ref 18), (1, .int (iI x)), (2, .int (iI w))] [.int (iI 1)] _ _ _ _
    refine pm_e_iff pm_a191_5 rfl (by decide +kernel) ?_
    show pm_E _ _ _ 8 [(0, .ref 18), (1, .int (iI x)), (2, .int (iI w))] [] _ _ _ _
    refine pm_e_sim pm_a191_8 rfl ?_
    show pm_E _ _ _ 9 [(0, .ref 18), (1, .int (iI x)), (2, .int (iI w))] [.int (iI w)] _ _ _ _
    refine pm_e_sim pm_a191_9 rfl ?_
    refine pm_l_top (y := lI (w)) (iI_l ⟨by omega, by omega⟩) ?_
    show pm_E _ _ _ 10 [(0, .ref 18), (1, .int (iI x)), (2, .int (iI w))] [.long (lI w)] _ _ _ _
    refine pm_e_sim pm_a191_10 rfl ?_
    refine pm_l_top (y := lI 0) (by decide +kernel) ?_
    show pm_E _ _ _ 11 [(0, .ref 18), (1, .int (iI x)), (2, .int (iI w))] [.long (lI 0), .long (lI w)] _ _ _ _
    refine pm_e_rd pm_a191_11 rfl rfl rfl ?_
    refine pm_l_top (y := lI 3) (by decide +kernel) ?_
    show pm_E _ _ _ 14 [(0, .ref 18), (1, .int (iI x)), (2, .int (iI w))] [.long (lI 3), .long (lI 0), .long (lI w)] _ _ _ _
    refine pm_e_call (T2 := pm_mm147) pm_a191_14 rfl rfl rfl rfl rfl rfl rfl rfl rfl ?_
    show pm_E none _ _ 0 [(0, .long (lI w)), (2, .long (lI 0)), (4, .long (lI 3))] [] _ _ _ _
    refine M_in ⟨by omega, by omega⟩ ⟨by omega, by omega⟩ ⟨by omega, by omega⟩ (fun h_2 => ?_) (fun h_2 => ?_)
    · skip
      show pm_E _ _ _ 17 [(0, .ref 18), (1, .int (iI x)), (2, .int (iI w))] [.int (iI 1)] _ _ _ _
      refine pm_e_ift pm_a191_17 rfl (by decide +kernel) ?_
      show pm_E _ _ _ 22 [(0, .ref 18), (1, .int (iI x)), (2, .int (iI w))] [] _ _ _ _
      refine pm_e_sim pm_a191_22 rfl ?_
      show pm_E _ _ _ 23 [(0, .ref 18), (1, .int (iI x)), (2, .int (iI w))] [.ref 18] _ _ _ _
      refine pm_e_sim pm_a191_23 rfl ?_
      show pm_E _ _ _ 24 [(0, .ref 18), (1, .int (iI x)), (2, .int (iI w))] [.int (iI x), .ref 18] _ _ _ _
      refine pm_i_callv (k := 18) (T2 := pm_mm168) pm_a191_24 rfl rfl rfl (mh_get (j := 0) hA rfl) ⟨Nat.le_of_ble_eq_true rfl, Nat.le_of_ble_eq_true rfl, rfl, by decide +kernel⟩ ?_
      show pm_E none _ _ 0 [(0, .ref 18), (1, .int (iI x))] [] _ _ _ _
      obtain ⟨tl, ft, tt⟩ := hok.2.2 x (by omega) (by omega)
      have tp := tL_pos tt
      have ts := (hsh.2 x (by omega) (by omega)).1
      have tk := sh_take hsh (x := x) (by omega) (by omega)
      refine M_take hA (by omega) (by omega) (by omega) (by omega) (fun s1 a1 es ea => ?_)
      have e6 : s1 6 = (T x).length := by rw [es, ← ts]; rfl
      have t1 : tm (a1 4) ft 0 0 (s1 6) := by rw [e6, ea]; exact tL_tm0 tt tk
      have hr1 : ∀ j, in32 (a1 4 j) := fun j => by rw [ea]; exact cpI_in (hin 4) (hin 2) j
      have g1 : rg (a1 4) (T x).length 0 = T x := by rw [ea]; exact tk
      show pm_E _ _ _ 27 [(0, .ref 18), (1, .int (iI x)), (2, .int (iI w))] [] _ _ _ _
      refine pm_e_sim pm_a191_27 rfl ?_
      show pm_E _ _ _ 28 [(0, .ref 18), (1, .int (iI x)), (2, .int (iI w))] [.ref 18] _ _ _ _
      refine pm_e_sim pm_a191_28 rfl ?_
      show pm_E _ _ _ 29 [(0, .ref 18), (1, .int (iI x)), (2, .int (iI w))] [.int (iI w), .ref 18] _ _ _ _
      refine pm_i_callv (k := 18) (T2 := pm_mm179) pm_a191_29 rfl rfl rfl (mh_get (j := 0) hA rfl) ⟨Nat.le_of_ble_eq_true rfl, Nat.le_of_ble_eq_true rfl, rfl, by decide +kernel⟩ ?_
      show pm_E none _ _ 0 [(0, .ref 18), (1, .int (iI w))] [] _ _ _ _
      refine M_nextRedex hA hr1 (by omega) t1 (fun j z y => by have := tm_bd t1 (by omega) j z y; omega) (by omega) (by omega) (fun r P D hn => ?_)
      show pm_E _ _ _ 32 [(0, .ref 18), (1, .int (iI x)), (2, .int (iI w))] [.int (iI r)] _ _ _ _
      refine pm_e_ret pm_a191_32 rfl rfl rfl rfl rfl rfl rfl rfl ?_
      rw [e6] at hn
      exact k (by omega) (by omega) (by omega) (by omega) r _ _ ⟨_, g1, hn⟩ (by subst es; rfl) ⟨by subst es; rfl, by subst es; rfl, by subst es; rfl, by subst es; rfl, by subst es; rfl⟩ (by subst ea; rfl) (by subst ea; rfl) (by subst ea; rfl)
    · skip
      show pm_E _ _ _ 17 [(0, .ref 18), (1, .int (iI x)), (2, .int (iI w))] [.int (iI 0)] _ _ _ _
      refine pm_e_iff pm_a191_17 rfl (by decide +kernel) ?_
      show pm_E _ _ _ 20 [(0, .ref 18), (1, .int (iI x)), (2, .int (iI w))] [] _ _ _ _
      refine pm_e_sim pm_a191_20 rfl ?_
      refine pm_e_top (y := iI (-1)) (by decide +kernel) ?_
      show pm_E _ _ _ 21 [(0, .ref 18), (1, .int (iI x)), (2, .int (iI w))] [.int (iI (-1))] _ _ _ _
      refine pm_e_ret pm_a191_21 rfl rfl rfl rfl rfl rfl rfl rfl ?_
      exact kb (by omega)
  · skip
    show pm_E _ _ _ 5 [(0, .ref 18), (1, .int (iI x)), (2, .int (iI w))] [.int (iI 0)] _ _ _ _
    refine pm_e_ift pm_a191_5 rfl (by decide +kernel) ?_
    show pm_E _ _ _ 20 [(0, .ref 18), (1, .int (iI x)), (2, .int (iI w))] [] _ _ _ _
    refine pm_e_sim pm_a191_20 rfl ?_
    refine pm_e_top (y := iI (-1)) (by decide +kernel) ?_
    show pm_E _ _ _ 21 [(0, .ref 18), (1, .int (iI x)), (2, .int (iI w))] [.int (iI (-1))] _ _ _ _
    refine pm_e_ret pm_a191_21 rfl rfl rfl rfl rfl rfl rfl rfl ?_
    exact kb (by omega)
theorem M_steppedT {d : Nat} {A B : List va_E} {s : Nat → Int} {vl : Int64} {a : Nat → Int → Int} {nm : Nat → Int64} {Q : Option Value → List va_E → Nat → Nat → Prop} {w : Int} {l : List Int} {ff : Nat} (hA : A.length = 18) (hr : ∀ j, in32 (a 4 j)) (hq : ∀ j, in32 (a 16 j)) (hl : l.length ≤ 500) (tl : tL ff 0 l) (h6 : s 6 = l.length) (hg : rg (a 4) l.length 0 = l) (hw0 : 0 ≤ w) (hw1 : w ≤ 3) (k : ∀ (r : Int) l' s' a', stp w l r l' → fr1 s a s' a' → s' 6 = l'.length → rg (a' 4) l'.length 0 = l' → in32 r → Q (some (.int (iI r))) (mh A s' vl a' nm B) 0 0) : pm_E none (d + 4) pm_mm178 0 [(0, .ref 18), (1, .int (iI w))] [] (mh A s vl a nm B) 0 0 Q := by
  refine M_stepped hA hr hq (by omega) (by rw [h6]; exact tL_tm0 tl hg) (by omega) (by omega) hw0 hw1 (fun hn s2 a2 fr e2 e4 => ?_) (fun p e f1 k1 b hn hp tp hb hL s2 a2 fr e2 e4 => ?_) (fun p e f1 k1 b hn hp tp hb hL s2 a2 fr e2 g2 => ?_)
  · exact k 0 l s2 a2 ⟨a 4, hg, Or.inl ⟨by rw [h6] at hn; exact hn, rfl, rfl⟩⟩ fr (by rw [e2, h6]) (by rw [e4]; exact hg) (by decide)
  · exact k (-3) l s2 a2 ⟨a 4, hg, Or.inr ⟨p, e, f1, k1, b, by rw [h6] at hn; exact hn, hp, tp, hb, Or.inl ⟨by rw [h6] at hL; exact hL, rfl, rfl⟩⟩⟩ fr (by rw [e2, h6]) (by rw [e4]; exact hg) (by decide)
  · exact k 1 _ s2 a2 ⟨a 4, hg, Or.inr ⟨p, e, f1, k1, b, by rw [h6] at hn; exact hn, hp, tp, hb, Or.inr ⟨by rw [h6] at hL; exact hL, rfl, by rw [h6]⟩⟩⟩ fr e2 g2 (by decide)
set_option maxHeartbeats 4000000 in
set_option maxRecDepth 100000 in
theorem M_step {d : Nat} {A B : List va_E} {s : Nat → Int} {vl : Int64} {a : Nat → Int → Int} {nm : Nat → Int64} {Q : Option Value → List va_E → Nat → Nat → Prop} {n x : Int} {T : Int → List Int} {w : Int} (hA : A.length = 18) (hin : ∀ i j, in32 (a i j)) (hok : okT n T) (hsh : sh s a n T) (hx : in32 x) (hw : in32 w) (kb : (x < 0 ∨ n ≤ x ∨ w < 0 ∨ 3 < w) → Q (some (.int (iI (-1)))) (mh A s vl a nm B) 0 0) (k : ∀ r l' s' a', stp w (T x) r l' → sh s' a' n (upT T x l') → (s' 4 = s 4 ∧ s' 45 = s 45 ∧ s' 30 = s 30 ∧ s' 31 = s 31 ∧ s' 13 = s 13) → a' 3 = a 3 → Q (some (.int (iI r))) (mh A s' vl a' nm B) 0 0) : pm_E none (d + 5) pm_mm177 0 [(0, .ref 18), (1, .int (iI x)), (2, .int (iI w))] [] (mh A s vl a nm B) 0 0 Q := by
  obtain ⟨on0, on1, okk⟩ := id hok
  have s0 := hsh.1
  refine pm_e_sim pm_a177_0 rfl ?_
  show pm_E _ _ _ 1 [(0, .ref 18), (1, .int (iI x)), (2, .int (iI w))] [.ref 18] _ _ _ _
  refine pm_e_sim pm_a177_1 rfl ?_
  show pm_E _ _ _ 2 [(0, .ref 18), (1, .int (iI x)), (2, .int (iI w))] [.int (iI x), .ref 18] _ _ _ _
  refine pm_i_callv (k := 18) (T2 := pm_mm165) pm_a177_2 rfl rfl rfl (mh_get (j := 0) hA rfl) ⟨Nat.le_of_ble_eq_true rfl, Nat.le_of_ble_eq_true rfl, rfl, by decide +kernel⟩ ?_
  show pm_E none _ _ 0 [(0, .ref 18), (1, .int (iI x))] [] _ _ _ _
  refine M_isTerm hA ⟨by omega, by omega⟩ (by omega) (by omega) (fun h_1 => ?_) (fun h_1 => ?_)
  · skip
    show pm_E _ _ _ 5 [(0, .ref 18), (1, .int (iI x)), (2, .int (iI w))] [.int (iI 1)] _ _ _ _
    refine pm_e_iff pm_a177_5 rfl (by decide +kernel) ?_
    show pm_E _ _ _ 8 [(0, .ref 18), (1, .int (iI x)), (2, .int (iI w))] [] _ _ _ _
    refine pm_e_sim pm_a177_8 rfl ?_
    show pm_E _ _ _ 9 [(0, .ref 18), (1, .int (iI x)), (2, .int (iI w))] [.int (iI w)] _ _ _ _
    refine pm_e_sim pm_a177_9 rfl ?_
    refine pm_l_top (y := lI (w)) (iI_l ⟨by omega, by omega⟩) ?_
    show pm_E _ _ _ 10 [(0, .ref 18), (1, .int (iI x)), (2, .int (iI w))] [.long (lI w)] _ _ _ _
    refine pm_e_sim pm_a177_10 rfl ?_
    refine pm_l_top (y := lI 0) (by decide +kernel) ?_
    show pm_E _ _ _ 11 [(0, .ref 18), (1, .int (iI x)), (2, .int (iI w))] [.long (lI 0), .long (lI w)] _ _ _ _
    refine pm_e_rd pm_a177_11 rfl rfl rfl ?_
    refine pm_l_top (y := lI 3) (by decide +kernel) ?_
    show pm_E _ _ _ 14 [(0, .ref 18), (1, .int (iI x)), (2, .int (iI w))] [.long (lI 3), .long (lI 0), .long (lI w)] _ _ _ _
    refine pm_e_call (T2 := pm_mm147) pm_a177_14 rfl rfl rfl rfl rfl rfl rfl rfl rfl ?_
    show pm_E none _ _ 0 [(0, .long (lI w)), (2, .long (lI 0)), (4, .long (lI 3))] [] _ _ _ _
    refine M_in ⟨by omega, by omega⟩ ⟨by omega, by omega⟩ ⟨by omega, by omega⟩ (fun h_2 => ?_) (fun h_2 => ?_)
    · skip
      show pm_E _ _ _ 17 [(0, .ref 18), (1, .int (iI x)), (2, .int (iI w))] [.int (iI 1)] _ _ _ _
      refine pm_e_ift pm_a177_17 rfl (by decide +kernel) ?_
      show pm_E _ _ _ 22 [(0, .ref 18), (1, .int (iI x)), (2, .int (iI w))] [] _ _ _ _
      refine pm_e_sim pm_a177_22 rfl ?_
      show pm_E _ _ _ 23 [(0, .ref 18), (1, .int (iI x)), (2, .int (iI w))] [.ref 18] _ _ _ _
      refine pm_e_sim pm_a177_23 rfl ?_
      show pm_E _ _ _ 24 [(0, .ref 18), (1, .int (iI x)), (2, .int (iI w))] [.int (iI x), .ref 18] _ _ _ _
      refine pm_i_callv (k := 18) (T2 := pm_mm168) pm_a177_24 rfl rfl rfl (mh_get (j := 0) hA rfl) ⟨Nat.le_of_ble_eq_true rfl, Nat.le_of_ble_eq_true rfl, rfl, by decide +kernel⟩ ?_
      show pm_E none _ _ 0 [(0, .ref 18), (1, .int (iI x))] [] _ _ _ _
      obtain ⟨tl, ft, tt⟩ := hok.2.2 x (by omega) (by omega)
      have tp := tL_pos tt
      have ts := (hsh.2 x (by omega) (by omega)).1
      have tk := sh_take hsh (x := x) (by omega) (by omega)
      refine M_take hA (by omega) (by omega) (by omega) (by omega) (fun s1 a1 es ea => ?_)
      have e6 : s1 6 = (T x).length := by rw [es, ← ts]; rfl
      have t1 : tm (a1 4) ft 0 0 (s1 6) := by rw [e6, ea]; exact tL_tm0 tt tk
      have hr1 : ∀ j, in32 (a1 4 j) := fun j => by rw [ea]; exact cpI_in (hin 4) (hin 2) j
      have g1 : rg (a1 4) (T x).length 0 = T x := by rw [ea]; exact tk
      show pm_E _ _ _ 27 [(0, .ref 18), (1, .int (iI x)), (2, .int (iI w))] [] _ _ _ _
      refine pm_e_sim pm_a177_27 rfl ?_
      show pm_E _ _ _ 28 [(0, .ref 18), (1, .int (iI x)), (2, .int (iI w))] [.ref 18] _ _ _ _
      refine pm_e_sim pm_a177_28 rfl ?_
      show pm_E _ _ _ 29 [(0, .ref 18), (1, .int (iI x)), (2, .int (iI w))] [.int (iI w), .ref 18] _ _ _ _
      refine pm_i_callv (k := 18) (T2 := pm_mm178) pm_a177_29 rfl rfl rfl (mh_get (j := 0) hA rfl) ⟨Nat.le_of_ble_eq_true rfl, Nat.le_of_ble_eq_true rfl, rfl, by decide +kernel⟩ ?_
      show pm_E none _ _ 0 [(0, .ref 18), (1, .int (iI w))] [] _ _ _ _
      have hq1 : ∀ j, in32 (a1 16 j) := fun j => by rw [ea]; exact hin 16 j
      refine M_steppedT hA hr1 hq1 tl tt e6 g1 (by omega) (by omega) (fun r l' s2 a2 hst fr e2 g2 hr2 => ?_)
      obtain ⟨l5, F5, t5⟩ := stp_ok tt tl hst
      show pm_E _ _ _ 32 [(0, .ref 18), (1, .int (iI x)), (2, .int (iI w))] [.int (iI r)] _ _ _ _
      refine pm_e_sim pm_a177_32 rfl ?_
      show pm_E _ _ _ 33 [(0, .ref 18), (1, .int (iI x)), (2, .int (iI w)), (3, .int (iI r))] [] _ _ _ _
      refine pm_e_sim pm_a177_33 rfl ?_
      show pm_E _ _ _ 34 [(0, .ref 18), (1, .int (iI x)), (2, .int (iI w)), (3, .int (iI r))] [.ref 18] _ _ _ _
      refine pm_e_sim pm_a177_34 rfl ?_
      show pm_E _ _ _ 35 [(0, .ref 18), (1, .int (iI x)), (2, .int (iI w)), (3, .int (iI r))] [.int (iI x), .ref 18] _ _ _ _
      refine pm_i_callv (k := 18) (T2 := pm_mm162) pm_a177_35 rfl rfl rfl (mh_get (j := 0) hA rfl) ⟨Nat.le_of_ble_eq_true rfl, Nat.le_of_ble_eq_true rfl, rfl, by decide +kernel⟩ ?_
      show pm_E none _ _ 0 [(0, .ref 18), (1, .int (iI x))] [] _ _ _ _
      obtain ⟨fS, fA, _, _⟩ := fr
      have e12 : a2 1 = a 1 := by rw [fA 1 (by omega) (by omega) (by omega) (by omega) (by omega), ea]; rfl
      have e22 : a2 2 = a 2 := by rw [fA 2 (by omega) (by omega) (by omega) (by omega) (by omega), ea]; rfl
      have e32 : a2 3 = a 3 := by rw [fA 3 (by omega) (by omega) (by omega) (by omega) (by omega), ea]; rfl
      refine M_keep hA (by omega) (by omega) (by omega) (by omega) (fun a3 e3 => ?_)
      have hs3 : ∀ t, 0 ≤ t → t < n → a3 1 t = (upT T x l' t).length ∧ rg (a3 2) (upT T x l' t).length (500 * t) = upT T x l' t := by
        rw [e3]
        exact sh_keep (by omega) (fun t z y _ => by rw [e12, e22]; exact ⟨(okk t z y).1, hsh.2 t z y⟩) l5 g2 e2
      show pm_E _ _ _ 38 [(0, .ref 18), (1, .int (iI x)), (2, .int (iI w)), (3, .int (iI r))] [] _ _ _ _
      refine pm_e_sim pm_a177_38 rfl ?_
      show pm_E _ _ _ 39 [(0, .ref 18), (1, .int (iI x)), (2, .int (iI w)), (3, .int (iI r))] [.int (iI r)] _ _ _ _
      refine pm_e_ret pm_a177_39 rfl rfl rfl rfl rfl rfl rfl rfl ?_
      refine k r l' s2 a3 hst ⟨?_, hs3⟩ ?_ ?_
      · rw [fS 0 (by omega) (by omega), es]; exact s0
      · exact ⟨by rw [fS 4 (by omega) (by omega), es]; rfl, by rw [fS 45 (by omega) (by omega), es]; rfl, by rw [fS 30 (by omega) (by omega), es]; rfl, by rw [fS 31 (by omega) (by omega), es]; rfl, by rw [fS 13 (by omega) (by omega), es]; rfl⟩
      · rw [e3, ← e32]; rfl
    · skip
      show pm_E _ _ _ 17 [(0, .ref 18), (1, .int (iI x)), (2, .int (iI w))] [.int (iI 0)] _ _ _ _
      refine pm_e_iff pm_a177_17 rfl (by decide +kernel) ?_
      show pm_E _ _ _ 20 [(0, .ref 18), (1, .int (iI x)), (2, .int (iI w))] [] _ _ _ _
      refine pm_e_sim pm_a177_20 rfl ?_
      refine pm_e_top (y := iI (-1)) (by decide +kernel) ?_
      show pm_E _ _ _ 21 [(0, .ref 18), (1, .int (iI x)), (2, .int (iI w))] [.int (iI (-1))] _ _ _ _
      refine pm_e_ret pm_a177_21 rfl rfl rfl rfl rfl rfl rfl rfl ?_
      exact kb (by omega)
  · skip
    show pm_E _ _ _ 5 [(0, .ref 18), (1, .int (iI x)), (2, .int (iI w))] [.int (iI 0)] _ _ _ _
    refine pm_e_ift pm_a177_5 rfl (by decide +kernel) ?_
    show pm_E _ _ _ 20 [(0, .ref 18), (1, .int (iI x)), (2, .int (iI w))] [] _ _ _ _
    refine pm_e_sim pm_a177_20 rfl ?_
    refine pm_e_top (y := iI (-1)) (by decide +kernel) ?_
    show pm_E _ _ _ 21 [(0, .ref 18), (1, .int (iI x)), (2, .int (iI w))] [.int (iI (-1))] _ _ _ _
    refine pm_e_ret pm_a177_21 rfl rfl rfl rfl rfl rfl rfl rfl ?_
    exact kb (by omega)
set_option maxHeartbeats 4000000 in
set_option maxRecDepth 100000 in
theorem M_steps_l {d : Nat} {A B : List va_E} {vl : Int64} {nm : Nat → Int64} {Q : Option Value → List va_E → Nat → Nat → Prop} {x w n : Int} (hA : A.length = 18) (hn : 0 ≤ n) (hn1 : n ≤ 200) (hw0 : 0 ≤ w) (hw1 : w ≤ 3) : ∀ (f : Nat) (i o : Int) {l : List Int} {ff : Nat} (s : Nat → Int) (a : Nat → Int → Int), 0 ≤ i → i ≤ n → (o = 1 ∨ o = 0) → (o = 1 → s 30 = 1) → (∀ j, in32 (a 4 j)) → (∀ j, in32 (a 16 j)) → l.length ≤ 500 → tL ff 0 l → (0 ≤ s 31 ∧ s 31 ≤ 500) → s 6 = l.length → rg (a 4) l.length 0 = l → (∀ (s' : Nat → Int) (a' : Nat → Int → Int) (l' : List Int) (i' : Int), (o = 0 → l' = l ∧ i' = i ∧ s' 30 = s 30 ∧ s' 31 = s 31) → (o = 1 → stx w (n - i).toNat (s 31) l (i' - i) (s' 30) (s' 31) l') → (∀ j, j ≠ 6 → j ≠ 28 → j ≠ 30 → j ≠ 31 → s' j = s j) → (∀ j, j ≠ 4 → j ≠ 5 → j ≠ 6 → j ≠ 15 → j ≠ 16 → a' j = a j) → s' 6 = l'.length → rg (a' 4) l'.length 0 = l' → ∀ o', pm_E none (d + 5) pm_mm189 146 [(0, .ref 18), (1, .int (iI x)), (2, .int (iI w)), (3, .int (iI n)), (4, .int (iI (i'))), (5, .int (iI (o')))] [] (mh A s' vl a' nm B) 0 0 Q) → 2 * (n - i) + o < (f : Int) → pm_E none (d + 5) pm_mm189 55 [(0, .ref 18), (1, .int (iI x)), (2, .int (iI w)), (3, .int (iI n)), (4, .int (iI i)), (5, .int (iI o))] [] (mh A s vl a nm B) 0 0 Q := by
  intro f
  induction f with
  | zero =>
    intro i o l ff s a h0 h1 ho h30 hr hq tl tt h31 h6 hg k hf
    exfalso; omega
  | succ f ih =>
    intro i o l ff s a h0 h1 ho h30 hr hq tl tt h31 h6 hg k hf
    refine pm_e_sim pm_a189_55 rfl ?_
    show pm_E _ _ _ 57 [(0, .ref 18), (1, .int (iI x)), (2, .int (iI w)), (3, .int (iI n)), (4, .int (iI i)), (5, .int (iI o))] [.int (iI o)] _ _ _ _
    refine pm_i_eq (t := 146) pm_a189_57 rfl ⟨by omega, by omega⟩ (fun h_1 => ?_) (fun h_1 => ?_)
    · skip
      show pm_E _ _ _ 146 [(0, .ref 18), (1, .int (iI x)), (2, .int (iI w)), (3, .int (iI n)), (4, .int (iI i)), (5, .int (iI o))] [] _ _ _ _
      exact k s a l i (fun _ => ⟨rfl, rfl, rfl, rfl⟩) (fun z => by first | (exfalso; omega) | (rw [show (n - i).toNat = 0 by omega]; exact ⟨by omega, h30 z, rfl, rfl⟩)) (fun j _ _ _ _ => rfl) (fun j _ _ _ _ _ => rfl) h6 hg _
    · skip
      show pm_E _ _ _ 60 [(0, .ref 18), (1, .int (iI x)), (2, .int (iI w)), (3, .int (iI n)), (4, .int (iI i)), (5, .int (iI o))] [] _ _ _ _
      refine pm_e_sim pm_a189_60 rfl ?_
      show pm_E _ _ _ 62 [(0, .ref 18), (1, .int (iI x)), (2, .int (iI w)), (3, .int (iI n)), (4, .int (iI i)), (5, .int (iI o))] [.int (iI i)] _ _ _ _
      refine pm_e_sim pm_a189_62 rfl ?_
      show pm_E _ _ _ 63 [(0, .ref 18), (1, .int (iI x)), (2, .int (iI w)), (3, .int (iI n)), (4, .int (iI i)), (5, .int (iI o))] [.int (iI n), .int (iI i)] _ _ _ _
      refine pm_c_ge (t := 146) pm_a189_63 rfl ⟨by omega, by omega⟩ ⟨by omega, by omega⟩ (fun h_2 => ?_) (fun h_2 => ?_)
      · skip
        show pm_E _ _ _ 146 [(0, .ref 18), (1, .int (iI x)), (2, .int (iI w)), (3, .int (iI n)), (4, .int (iI i)), (5, .int (iI o))] [] _ _ _ _
        exact k s a l i (fun _ => ⟨rfl, rfl, rfl, rfl⟩) (fun z => by first | (exfalso; omega) | (rw [show (n - i).toNat = 0 by omega]; exact ⟨by omega, h30 z, rfl, rfl⟩)) (fun j _ _ _ _ => rfl) (fun j _ _ _ _ _ => rfl) h6 hg _
      · skip
        show pm_E _ _ _ 66 [(0, .ref 18), (1, .int (iI x)), (2, .int (iI w)), (3, .int (iI n)), (4, .int (iI i)), (5, .int (iI o))] [] _ _ _ _
        refine pm_e_sim pm_a189_66 rfl ?_
        show pm_E _ _ _ 67 [(0, .ref 18), (1, .int (iI x)), (2, .int (iI w)), (3, .int (iI n)), (4, .int (iI i)), (5, .int (iI o))] [.ref 18] _ _ _ _
        refine pm_e_sim pm_a189_67 rfl ?_
        show pm_E _ _ _ 68 [(0, .ref 18), (1, .int (iI x)), (2, .int (iI w)), (3, .int (iI n)), (4, .int (iI i)), (5, .int (iI o))] [.int (iI w), .ref 18] _ _ _ _
        refine pm_i_callv (k := 18) (T2 := pm_mm178) pm_a189_68 rfl rfl rfl (mh_get (j := 0) hA rfl) ⟨Nat.le_of_ble_eq_true rfl, Nat.le_of_ble_eq_true rfl, rfl, by decide +kernel⟩ ?_
        show pm_E none _ _ 0 [(0, .ref 18), (1, .int (iI w))] [] _ _ _ _
        refine M_steppedT hA hr hq tl tt h6 hg hw0 hw1 (fun r l' s2 a2 hst fr e2 g2 hr2 => ?_)
        obtain ⟨l5, F5, t5⟩ := stp_ok tt tl hst
        obtain ⟨fS, fA, fr4, fr16⟩ := fr
        have e31 : s2 31 = s 31 := fS 31 (by omega) (by omega)
        show pm_E _ _ _ 71 [(0, .ref 18), (1, .int (iI x)), (2, .int (iI w)), (3, .int (iI n)), (4, .int (iI i)), (5, .int (iI o))] [.int (iI r)] _ _ _ _
        refine pm_e_sim pm_a189_71 rfl ?_
        show pm_E _ _ _ 73 [(0, .ref 18), (1, .int (iI x)), (2, .int (iI w)), (3, .int (iI n)), (4, .int (iI i)), (5, .int (iI o)), (6, .int (iI r))] [] _ _ _ _
        refine pm_e_sim pm_a189_73 rfl ?_
        show pm_E _ _ _ 75 [(0, .ref 18), (1, .int (iI x)), (2, .int (iI w)), (3, .int (iI n)), (4, .int (iI i)), (5, .int (iI o)), (6, .int (iI r))] [.int (iI r)] _ _ _ _
        refine pm_e_sim pm_a189_75 rfl ?_
        refine pm_e_top (y := iI 1) (by decide +kernel) ?_
        show pm_E _ _ _ 76 [(0, .ref 18), (1, .int (iI x)), (2, .int (iI w)), (3, .int (iI n)), (4, .int (iI i)), (5, .int (iI o)), (6, .int (iI r))] [.int (iI 1), .int (iI r)] _ _ _ _
        refine pm_c_ne (t := 83) pm_a189_76 rfl ⟨by omega, by omega⟩ ⟨by omega, by omega⟩ (fun h_3 => ?_) (fun h_3 => ?_)
        · skip
          show pm_E _ _ _ 83 [(0, .ref 18), (1, .int (iI x)), (2, .int (iI w)), (3, .int (iI n)), (4, .int (iI i)), (5, .int (iI o)), (6, .int (iI r))] [] _ _ _ _
          refine pm_e_sim pm_a189_83 rfl ?_
          refine pm_e_top (y := iI 0) (by decide +kernel) ?_
          show pm_E _ _ _ 84 [(0, .ref 18), (1, .int (iI x)), (2, .int (iI w)), (3, .int (iI n)), (4, .int (iI i)), (5, .int (iI o)), (6, .int (iI r))] [.int (iI 0)] _ _ _ _
          refine pm_e_sim pm_a189_84 rfl ?_
          show pm_E _ _ _ 86 [(0, .ref 18), (1, .int (iI x)), (2, .int (iI w)), (3, .int (iI n)), (4, .int (iI i)), (5, .int (iI 0)), (6, .int (iI r))] [] _ _ _ _
          refine pm_e_sim pm_a189_86 rfl ?_
          show pm_E _ _ _ 87 [(0, .ref 18), (1, .int (iI x)), (2, .int (iI w)), (3, .int (iI n)), (4, .int (iI i)), (5, .int (iI 0)), (6, .int (iI r))] [.ref 18] _ _ _ _
          refine pm_e_sim pm_a189_87 rfl ?_
          show pm_E _ _ _ 89 [(0, .ref 18), (1, .int (iI x)), (2, .int (iI w)), (3, .int (iI n)), (4, .int (iI i)), (5, .int (iI 0)), (6, .int (iI r))] [.int (iI 0), .ref 18] _ _ _ _
          refine pm_e_ift pm_a189_89 rfl (by decide +kernel) ?_
          show pm_E _ _ _ 96 [(0, .ref 18), (1, .int (iI x)), (2, .int (iI w)), (3, .int (iI n)), (4, .int (iI i)), (5, .int (iI 0)), (6, .int (iI r))] [.ref 18] _ _ _ _
          refine pm_e_sim pm_a189_96 rfl ?_
          show pm_E _ _ _ 98 [(0, .ref 18), (1, .int (iI x)), (2, .int (iI w)), (3, .int (iI n)), (4, .int (iI i)), (5, .int (iI 0)), (6, .int (iI r))] [.int (iI r), .ref 18] _ _ _ _
          refine pm_i_ne (t := 105) pm_a189_98 rfl ⟨by omega, by omega⟩ (fun h_4 => ?_) (fun h_4 => ?_)
          · skip
            show pm_E _ _ _ 105 [(0, .ref 18), (1, .int (iI x)), (2, .int (iI w)), (3, .int (iI n)), (4, .int (iI i)), (5, .int (iI 0)), (6, .int (iI r))] [.ref 18] _ _ _ _
            refine pm_e_sim pm_a189_105 rfl ?_
            refine pm_e_top (y := iI 2) (by decide +kernel) ?_
            show pm_E _ _ _ 106 [(0, .ref 18), (1, .int (iI x)), (2, .int (iI w)), (3, .int (iI n)), (4, .int (iI i)), (5, .int (iI 0)), (6, .int (iI r))] [.int (iI 2), .ref 18] _ _ _ _
            refine pm_i_put pm_a189_106 rfl (mh_get (j := 0) hA rfl) rfl (Nat.le_of_ble_eq_true rfl) (Or.inl rfl) (mw_30 hA _) ?_
            show pm_E _ _ _ 109 [(0, .ref 18), (1, .int (iI x)), (2, .int (iI w)), (3, .int (iI n)), (4, .int (iI i)), (5, .int (iI 0)), (6, .int (iI r))] [] _ _ _ _
            refine pm_e_sim pm_a189_109 rfl ?_
            show pm_E _ _ _ 111 [(0, .ref 18), (1, .int (iI x)), (2, .int (iI w)), (3, .int (iI n)), (4, .int (iI i)), (5, .int (iI 0)), (6, .int (iI r))] [.int (iI 0)] _ _ _ _
            refine pm_e_ift pm_a189_111 rfl (by decide +kernel) ?_
            show pm_E _ _ _ 143 [(0, .ref 18), (1, .int (iI x)), (2, .int (iI w)), (3, .int (iI n)), (4, .int (iI i)), (5, .int (iI 0)), (6, .int (iI r))] [] _ _ _ _
            refine pm_e_goto pm_a189_143 rfl ?_
            show pm_E _ _ _ 55 [(0, .ref 18), (1, .int (iI x)), (2, .int (iI w)), (3, .int (iI n)), (4, .int (iI i)), (5, .int (iI 0)), (6, .int (iI r))] [] _ _ _ _
            show pm_E _ _ _ 55 ([(0, .ref 18), (1, .int (iI x)), (2, .int (iI w)), (3, .int (iI n)), (4, .int (iI i)), (5, .int (iI 0))] ++ [(6, .int (iI r))]) [] _ _ _ _
            refine pm_e_more [(6, .int (iI r))] (show ([0, 1, 2, 3, 4, 5, 6] : List Nat).Nodup from by decide) ?_
            have hr9 := stp_r hst
            refine ih i 0 (l := l') _ _ (by omega) (by omega) (Or.inr rfl) (fun z => by omega) fr4 fr16 l5 t5 ?_ (show s2 6 = _ from e2) g2 ?_ (by omega)
            · show 0 ≤ s2 31 ∧ s2 31 ≤ 500; omega
            · intro s3 a3 l3 i3 fi hs hS hA3 g6 g3
              obtain ⟨q1, q2, q3, q4⟩ := fi rfl
              have q5 : s3 30 = 2 := q3
              have q6 : s3 31 = s2 31 := q4
              subst q1
              refine k s3 a3 l3 i3 (fun z => by omega) (fun _ => ?_) (fun j h6 h28 h30 h31 => by rw [hS j h6 h28 h30 h31]; simp [updS, h30, fS j h6 h28]) (fun j h4 h5 h6 h15 h16 => by rw [hA3 j h4 h5 h6 h15 h16, fA j h4 h5 h6 h15 h16]) g6 g3
              rw [show (n - i).toNat = (n - (i + 1)).toNat + 1 by omega]
              exact ⟨r, l3, hst, Or.inl ⟨by omega, by omega, by omega, by omega, rfl⟩⟩
          · skip
            show pm_E _ _ _ 101 [(0, .ref 18), (1, .int (iI x)), (2, .int (iI w)), (3, .int (iI n)), (4, .int (iI i)), (5, .int (iI 0)), (6, .int (iI r))] [.ref 18] _ _ _ _
            refine pm_e_sim pm_a189_101 rfl ?_
            refine pm_e_top (y := iI 0) (by decide +kernel) ?_
            show pm_E _ _ _ 102 [(0, .ref 18), (1, .int (iI x)), (2, .int (iI w)), (3, .int (iI n)), (4, .int (iI i)), (5, .int (iI 0)), (6, .int (iI r))] [.int (iI 0), .ref 18] _ _ _ _
            refine pm_e_goto pm_a189_102 rfl ?_
            show pm_E _ _ _ 106 [(0, .ref 18), (1, .int (iI x)), (2, .int (iI w)), (3, .int (iI n)), (4, .int (iI i)), (5, .int (iI 0)), (6, .int (iI r))] [.int (iI 0), .ref 18] _ _ _ _
            refine pm_i_put pm_a189_106 rfl (mh_get (j := 0) hA rfl) rfl (Nat.le_of_ble_eq_true rfl) (Or.inl rfl) (mw_30 hA _) ?_
            show pm_E _ _ _ 109 [(0, .ref 18), (1, .int (iI x)), (2, .int (iI w)), (3, .int (iI n)), (4, .int (iI i)), (5, .int (iI 0)), (6, .int (iI r))] [] _ _ _ _
            refine pm_e_sim pm_a189_109 rfl ?_
            show pm_E _ _ _ 111 [(0, .ref 18), (1, .int (iI x)), (2, .int (iI w)), (3, .int (iI n)), (4, .int (iI i)), (5, .int (iI 0)), (6, .int (iI r))] [.int (iI 0)] _ _ _ _
            refine pm_e_ift pm_a189_111 rfl (by decide +kernel) ?_
            show pm_E _ _ _ 143 [(0, .ref 18), (1, .int (iI x)), (2, .int (iI w)), (3, .int (iI n)), (4, .int (iI i)), (5, .int (iI 0)), (6, .int (iI r))] [] _ _ _ _
            refine pm_e_goto pm_a189_143 rfl ?_
            show pm_E _ _ _ 55 [(0, .ref 18), (1, .int (iI x)), (2, .int (iI w)), (3, .int (iI n)), (4, .int (iI i)), (5, .int (iI 0)), (6, .int (iI r))] [] _ _ _ _
            show pm_E _ _ _ 55 ([(0, .ref 18), (1, .int (iI x)), (2, .int (iI w)), (3, .int (iI n)), (4, .int (iI i)), (5, .int (iI 0))] ++ [(6, .int (iI r))]) [] _ _ _ _
            refine pm_e_more [(6, .int (iI r))] (show ([0, 1, 2, 3, 4, 5, 6] : List Nat).Nodup from by decide) ?_
            have hr9 := stp_r hst
            refine ih i 0 (l := l') _ _ (by omega) (by omega) (Or.inr rfl) (fun z => by omega) fr4 fr16 l5 t5 ?_ (show s2 6 = _ from e2) g2 ?_ (by omega)
            · show 0 ≤ s2 31 ∧ s2 31 ≤ 500; omega
            · intro s3 a3 l3 i3 fi hs hS hA3 g6 g3
              obtain ⟨q1, q2, q3, q4⟩ := fi rfl
              have q5 : s3 30 = 0 := q3
              have q6 : s3 31 = s2 31 := q4
              subst q1
              refine k s3 a3 l3 i3 (fun z => by omega) (fun _ => ?_) (fun j h6 h28 h30 h31 => by rw [hS j h6 h28 h30 h31]; simp [updS, h30, fS j h6 h28]) (fun j h4 h5 h6 h15 h16 => by rw [hA3 j h4 h5 h6 h15 h16, fA j h4 h5 h6 h15 h16]) g6 g3
              rw [show (n - i).toNat = (n - (i + 1)).toNat + 1 by omega]
              exact ⟨r, l3, hst, Or.inl ⟨by omega, by omega, by omega, by omega, rfl⟩⟩
        · skip
          show pm_E _ _ _ 79 [(0, .ref 18), (1, .int (iI x)), (2, .int (iI w)), (3, .int (iI n)), (4, .int (iI i)), (5, .int (iI o)), (6, .int (iI r))] [] _ _ _ _
          refine pm_e_sim pm_a189_79 rfl ?_
          refine pm_e_top (y := iI 1) (by decide +kernel) ?_
          show pm_E _ _ _ 80 [(0, .ref 18), (1, .int (iI x)), (2, .int (iI w)), (3, .int (iI n)), (4, .int (iI i)), (5, .int (iI o)), (6, .int (iI r))] [.int (iI 1)] _ _ _ _
          refine pm_e_goto pm_a189_80 rfl ?_
          show pm_E _ _ _ 84 [(0, .ref 18), (1, .int (iI x)), (2, .int (iI w)), (3, .int (iI n)), (4, .int (iI i)), (5, .int (iI o)), (6, .int (iI r))] [.int (iI 1)] _ _ _ _
          refine pm_e_sim pm_a189_84 rfl ?_
          show pm_E _ _ _ 86 [(0, .ref 18), (1, .int (iI x)), (2, .int (iI w)), (3, .int (iI n)), (4, .int (iI i)), (5, .int (iI 1)), (6, .int (iI r))] [] _ _ _ _
          refine pm_e_sim pm_a189_86 rfl ?_
          show pm_E _ _ _ 87 [(0, .ref 18), (1, .int (iI x)), (2, .int (iI w)), (3, .int (iI n)), (4, .int (iI i)), (5, .int (iI 1)), (6, .int (iI r))] [.ref 18] _ _ _ _
          refine pm_e_sim pm_a189_87 rfl ?_
          show pm_E _ _ _ 89 [(0, .ref 18), (1, .int (iI x)), (2, .int (iI w)), (3, .int (iI n)), (4, .int (iI i)), (5, .int (iI 1)), (6, .int (iI r))] [.int (iI 1), .ref 18] _ _ _ _
          refine pm_e_iff pm_a189_89 rfl (by decide +kernel) ?_
          show pm_E _ _ _ 92 [(0, .ref 18), (1, .int (iI x)), (2, .int (iI w)), (3, .int (iI n)), (4, .int (iI i)), (5, .int (iI 1)), (6, .int (iI r))] [.ref 18] _ _ _ _
          refine pm_e_sim pm_a189_92 rfl ?_
          refine pm_e_top (y := iI 1) (by decide +kernel) ?_
          show pm_E _ _ _ 93 [(0, .ref 18), (1, .int (iI x)), (2, .int (iI w)), (3, .int (iI n)), (4, .int (iI i)), (5, .int (iI 1)), (6, .int (iI r))] [.int (iI 1), .ref 18] _ _ _ _
          refine pm_e_goto pm_a189_93 rfl ?_
          show pm_E _ _ _ 106 [(0, .ref 18), (1, .int (iI x)), (2, .int (iI w)), (3, .int (iI n)), (4, .int (iI i)), (5, .int (iI 1)), (6, .int (iI r))] [.int (iI 1), .ref 18] _ _ _ _
          refine pm_i_put pm_a189_106 rfl (mh_get (j := 0) hA rfl) rfl (Nat.le_of_ble_eq_true rfl) (Or.inl rfl) (mw_30 hA _) ?_
          show pm_E _ _ _ 109 [(0, .ref 18), (1, .int (iI x)), (2, .int (iI w)), (3, .int (iI n)), (4, .int (iI i)), (5, .int (iI 1)), (6, .int (iI r))] [] _ _ _ _
          refine pm_e_sim pm_a189_109 rfl ?_
          show pm_E _ _ _ 111 [(0, .ref 18), (1, .int (iI x)), (2, .int (iI w)), (3, .int (iI n)), (4, .int (iI i)), (5, .int (iI 1)), (6, .int (iI r))] [.int (iI 1)] _ _ _ _
          refine pm_e_iff pm_a189_111 rfl (by decide +kernel) ?_
          show pm_E _ _ _ 114 [(0, .ref 18), (1, .int (iI x)), (2, .int (iI w)), (3, .int (iI n)), (4, .int (iI i)), (5, .int (iI 1)), (6, .int (iI r))] [] _ _ _ _
          refine pm_e_inc (y := iI (i + 1)) pm_a189_114 rfl (iI_add _ _) (by decide +kernel) rfl ?_
          show pm_E _ _ _ 117 [(0, .ref 18), (1, .int (iI x)), (2, .int (iI w)), (3, .int (iI n)), (4, .int (iI (i + 1))), (5, .int (iI 1)), (6, .int (iI r))] [] _ _ _ _
          refine pm_e_sim pm_a189_117 rfl ?_
          show pm_E _ _ _ 118 [(0, .ref 18), (1, .int (iI x)), (2, .int (iI w)), (3, .int (iI n)), (4, .int (iI (i + 1))), (5, .int (iI 1)), (6, .int (iI r))] [.ref 18] _ _ _ _
          refine pm_e_sim pm_a189_118 rfl ?_
          show pm_E _ _ _ 119 [(0, .ref 18), (1, .int (iI x)), (2, .int (iI w)), (3, .int (iI n)), (4, .int (iI (i + 1))), (5, .int (iI 1)), (6, .int (iI r))] [.ref 18, .ref 18] _ _ _ _
          refine pm_i_get pm_a189_119 rfl (mh_get (j := 0) hA rfl) rfl ?_
          show pm_E _ _ _ 122 [(0, .ref 18), (1, .int (iI x)), (2, .int (iI w)), (3, .int (iI n)), (4, .int (iI (i + 1))), (5, .int (iI 1)), (6, .int (iI r))] [.int (iI (s2 6)), .ref 18] _ _ _ _
          refine pm_e_sim pm_a189_122 rfl ?_
          show pm_E _ _ _ 123 [(0, .ref 18), (1, .int (iI x)), (2, .int (iI w)), (3, .int (iI n)), (4, .int (iI (i + 1))), (5, .int (iI 1)), (6, .int (iI r))] [.ref 18, .int (iI (s2 6)), .ref 18] _ _ _ _
          refine pm_i_get pm_a189_123 rfl (mh_get (j := 0) hA rfl) rfl ?_
          show pm_E _ _ _ 126 [(0, .ref 18), (1, .int (iI x)), (2, .int (iI w)), (3, .int (iI n)), (4, .int (iI (i + 1))), (5, .int (iI 1)), (6, .int (iI r))] [.int (iI (s2 31)), .int (iI (s2 6)), .ref 18] _ _ _ _
          refine pm_c_le (t := 136) pm_a189_126 rfl ⟨by omega, by omega⟩ ⟨by omega, by omega⟩ (fun h_5 => ?_) (fun h_5 => ?_)
          · skip
            show pm_E _ _ _ 136 [(0, .ref 18), (1, .int (iI x)), (2, .int (iI w)), (3, .int (iI n)), (4, .int (iI (i + 1))), (5, .int (iI 1)), (6, .int (iI r))] [.ref 18] _ _ _ _
            refine pm_e_sim pm_a189_136 rfl ?_
            show pm_E _ _ _ 137 [(0, .ref 18), (1, .int (iI x)), (2, .int (iI w)), (3, .int (iI n)), (4, .int (iI (i + 1))), (5, .int (iI 1)), (6, .int (iI r))] [.ref 18, .ref 18] _ _ _ _
            refine pm_i_get pm_a189_137 rfl (mh_get (j := 0) hA rfl) rfl ?_
            show pm_E _ _ _ 140 [(0, .ref 18), (1, .int (iI x)), (2, .int (iI w)), (3, .int (iI n)), (4, .int (iI (i + 1))), (5, .int (iI 1)), (6, .int (iI r))] [.int (iI (s2 31)), .ref 18] _ _ _ _
            refine pm_i_put pm_a189_140 rfl (mh_get (j := 0) hA rfl) rfl (Nat.le_of_ble_eq_true rfl) (Or.inl rfl) (mw_31 hA _) ?_
            show pm_E _ _ _ 143 [(0, .ref 18), (1, .int (iI x)), (2, .int (iI w)), (3, .int (iI n)), (4, .int (iI (i + 1))), (5, .int (iI 1)), (6, .int (iI r))] [] _ _ _ _
            refine pm_e_goto pm_a189_143 rfl ?_
            show pm_E _ _ _ 55 [(0, .ref 18), (1, .int (iI x)), (2, .int (iI w)), (3, .int (iI n)), (4, .int (iI (i + 1))), (5, .int (iI 1)), (6, .int (iI r))] [] _ _ _ _
            show pm_E _ _ _ 55 ([(0, .ref 18), (1, .int (iI x)), (2, .int (iI w)), (3, .int (iI n)), (4, .int (iI (i + 1))), (5, .int (iI 1))] ++ [(6, .int (iI r))]) [] _ _ _ _
            refine pm_e_more [(6, .int (iI r))] (show ([0, 1, 2, 3, 4, 5, 6] : List Nat).Nodup from by decide) ?_
            refine ih (i + 1) 1 (l := l') _ _ (by omega) (by omega) (Or.inl rfl) (fun _ => rfl) fr4 fr16 l5 t5 ?_ (show s2 6 = _ from e2) g2 ?_ (by omega)
            · show 0 ≤ s2 31 ∧ s2 31 ≤ 500; omega
            · intro s3 a3 l3 i3 fi hs hS hA3 g6 g3
              have hs9 : stx w (n - (i + 1)).toNat (s2 31) l' (i3 - (i + 1)) (s3 30) (s3 31) l3 := hs rfl
              rw [show s2 31 = max (s 31) (l'.length : Int) by omega, show i3 - (i + 1) = i3 - i - 1 by omega] at hs9
              refine k s3 a3 l3 i3 (fun z => by omega) (fun _ => ?_) (fun j h6 h28 h30 h31 => by rw [hS j h6 h28 h30 h31]; show updS _ 31 _ j = _; simp [updS, h30, h31, fS j h6 h28]) (fun j h4 h5 h6 h15 h16 => by rw [hA3 j h4 h5 h6 h15 h16, fA j h4 h5 h6 h15 h16]) g6 g3
              rw [show (n - i).toNat = (n - (i + 1)).toNat + 1 by omega]
              exact ⟨r, l', hst, Or.inr ⟨by omega, hs9⟩⟩
          · skip
            show pm_E _ _ _ 129 [(0, .ref 18), (1, .int (iI x)), (2, .int (iI w)), (3, .int (iI n)), (4, .int (iI (i + 1))), (5, .int (iI 1)), (6, .int (iI r))] [.ref 18] _ _ _ _
            refine pm_e_sim pm_a189_129 rfl ?_
            show pm_E _ _ _ 130 [(0, .ref 18), (1, .int (iI x)), (2, .int (iI w)), (3, .int (iI n)), (4, .int (iI (i + 1))), (5, .int (iI 1)), (6, .int (iI r))] [.ref 18, .ref 18] _ _ _ _
            refine pm_i_get pm_a189_130 rfl (mh_get (j := 0) hA rfl) rfl ?_
            show pm_E _ _ _ 133 [(0, .ref 18), (1, .int (iI x)), (2, .int (iI w)), (3, .int (iI n)), (4, .int (iI (i + 1))), (5, .int (iI 1)), (6, .int (iI r))] [.int (iI (s2 6)), .ref 18] _ _ _ _
            refine pm_e_goto pm_a189_133 rfl ?_
            show pm_E _ _ _ 140 [(0, .ref 18), (1, .int (iI x)), (2, .int (iI w)), (3, .int (iI n)), (4, .int (iI (i + 1))), (5, .int (iI 1)), (6, .int (iI r))] [.int (iI (s2 6)), .ref 18] _ _ _ _
            refine pm_i_put pm_a189_140 rfl (mh_get (j := 0) hA rfl) rfl (Nat.le_of_ble_eq_true rfl) (Or.inl rfl) (mw_31 hA _) ?_
            show pm_E _ _ _ 143 [(0, .ref 18), (1, .int (iI x)), (2, .int (iI w)), (3, .int (iI n)), (4, .int (iI (i + 1))), (5, .int (iI 1)), (6, .int (iI r))] [] _ _ _ _
            refine pm_e_goto pm_a189_143 rfl ?_
            show pm_E _ _ _ 55 [(0, .ref 18), (1, .int (iI x)), (2, .int (iI w)), (3, .int (iI n)), (4, .int (iI (i + 1))), (5, .int (iI 1)), (6, .int (iI r))] [] _ _ _ _
            show pm_E _ _ _ 55 ([(0, .ref 18), (1, .int (iI x)), (2, .int (iI w)), (3, .int (iI n)), (4, .int (iI (i + 1))), (5, .int (iI 1))] ++ [(6, .int (iI r))]) [] _ _ _ _
            refine pm_e_more [(6, .int (iI r))] (show ([0, 1, 2, 3, 4, 5, 6] : List Nat).Nodup from by decide) ?_
            refine ih (i + 1) 1 (l := l') _ _ (by omega) (by omega) (Or.inl rfl) (fun _ => rfl) fr4 fr16 l5 t5 ?_ (show s2 6 = _ from e2) g2 ?_ (by omega)
            · show 0 ≤ s2 6 ∧ s2 6 ≤ 500; omega
            · intro s3 a3 l3 i3 fi hs hS hA3 g6 g3
              have hs9 : stx w (n - (i + 1)).toNat (s2 6) l' (i3 - (i + 1)) (s3 30) (s3 31) l3 := hs rfl
              rw [show s2 6 = max (s 31) (l'.length : Int) by omega, show i3 - (i + 1) = i3 - i - 1 by omega] at hs9
              refine k s3 a3 l3 i3 (fun z => by omega) (fun _ => ?_) (fun j h6 h28 h30 h31 => by rw [hS j h6 h28 h30 h31]; show updS _ 31 _ j = _; simp [updS, h30, h31, fS j h6 h28]) (fun j h4 h5 h6 h15 h16 => by rw [hA3 j h4 h5 h6 h15 h16, fA j h4 h5 h6 h15 h16]) g6 g3
              rw [show (n - i).toNat = (n - (i + 1)).toNat + 1 by omega]
              exact ⟨r, l', hst, Or.inr ⟨by omega, hs9⟩⟩
set_option maxHeartbeats 4000000 in
set_option maxRecDepth 100000 in
theorem M_steps {d : Nat} {A B : List va_E} {s : Nat → Int} {vl : Int64} {a : Nat → Int → Int} {nm : Nat → Int64} {Q : Option Value → List va_E → Nat → Nat → Prop} {n x : Int} {T : Int → List Int} {w m : Int} (hA : A.length = 18) (hin : ∀ i j, in32 (a i j)) (hok : okT n T) (hsh : sh s a n T) (hx : in32 x) (hw : in32 w) (hm : in32 m) (kb : (x < 0 ∨ n ≤ x ∨ w < 0 ∨ 3 < w ∨ m < 0 ∨ 200 < m) → Q (some (.int (iI (-1)))) (mh A s vl a nm B) 0 0) (k : ∀ r l' s' a', 0 ≤ m → stx w m.toNat 0 (T x) r (s' 30) (s' 31) l' → sh s' a' n (upT T x l') → (s' 4 = s 4 ∧ s' 45 = s 45 ∧ s' 13 = s 13) → a' 3 = a 3 → Q (some (.int (iI r))) (mh A s' vl a' nm B) 0 0) : pm_E none (d + 5) pm_mm189 0 [(0, .ref 18), (1, .int (iI x)), (2, .int (iI w)), (3, .int (iI m))] [] (mh A s vl a nm B) 0 0 Q := by
  obtain ⟨on0, on1, okk⟩ := id hok
  have s0 := hsh.1
  refine pm_e_sim pm_a189_0 rfl ?_
  show pm_E _ _ _ 1 [(0, .ref 18), (1, .int (iI x)), (2, .int (iI w)), (3, .int (iI m))] [.ref 18] _ _ _ _
  refine pm_e_sim pm_a189_1 rfl ?_
  show pm_E _ _ _ 2 [(0, .ref 18), (1, .int (iI x)), (2, .int (iI w)), (3, .int (iI m))] [.int (iI x), .ref 18] _ _ _ _
  refine pm_i_callv (k := 18) (T2 := pm_mm165) pm_a189_2 rfl rfl rfl (mh_get (j := 0) hA rfl) ⟨Nat.le_of_ble_eq_true rfl, Nat.le_of_ble_eq_true rfl, rfl, by decide +kernel⟩ ?_
  show pm_E none _ _ 0 [(0, .ref 18), (1, .int (iI x))] [] _ _ _ _
  refine M_isTerm hA ⟨by omega, by omega⟩ (by omega) (by omega) (fun h_1 => ?_) (fun h_1 => ?_)
  · skip
    show pm_E _ _ _ 5 [(0, .ref 18), (1, .int (iI x)), (2, .int (iI w)), (3, .int (iI m))] [.int (iI 1)] _ _ _ _
    refine pm_e_iff pm_a189_5 rfl (by decide +kernel) ?_
    show pm_E _ _ _ 8 [(0, .ref 18), (1, .int (iI x)), (2, .int (iI w)), (3, .int (iI m))] [] _ _ _ _
    refine pm_e_sim pm_a189_8 rfl ?_
    show pm_E _ _ _ 9 [(0, .ref 18), (1, .int (iI x)), (2, .int (iI w)), (3, .int (iI m))] [.int (iI w)] _ _ _ _
    refine pm_e_sim pm_a189_9 rfl ?_
    refine pm_l_top (y := lI (w)) (iI_l ⟨by omega, by omega⟩) ?_
    show pm_E _ _ _ 10 [(0, .ref 18), (1, .int (iI x)), (2, .int (iI w)), (3, .int (iI m))] [.long (lI w)] _ _ _ _
    refine pm_e_sim pm_a189_10 rfl ?_
    refine pm_l_top (y := lI 0) (by decide +kernel) ?_
    show pm_E _ _ _ 11 [(0, .ref 18), (1, .int (iI x)), (2, .int (iI w)), (3, .int (iI m))] [.long (lI 0), .long (lI w)] _ _ _ _
    refine pm_e_rd pm_a189_11 rfl rfl rfl ?_
    refine pm_l_top (y := lI 3) (by decide +kernel) ?_
    show pm_E _ _ _ 14 [(0, .ref 18), (1, .int (iI x)), (2, .int (iI w)), (3, .int (iI m))] [.long (lI 3), .long (lI 0), .long (lI w)] _ _ _ _
    refine pm_e_call (T2 := pm_mm147) pm_a189_14 rfl rfl rfl rfl rfl rfl rfl rfl rfl ?_
    show pm_E none _ _ 0 [(0, .long (lI w)), (2, .long (lI 0)), (4, .long (lI 3))] [] _ _ _ _
    refine M_in ⟨by omega, by omega⟩ ⟨by omega, by omega⟩ ⟨by omega, by omega⟩ (fun h_2 => ?_) (fun h_2 => ?_)
    · skip
      show pm_E _ _ _ 17 [(0, .ref 18), (1, .int (iI x)), (2, .int (iI w)), (3, .int (iI m))] [.int (iI 1)] _ _ _ _
      refine pm_e_iff pm_a189_17 rfl (by decide +kernel) ?_
      show pm_E _ _ _ 20 [(0, .ref 18), (1, .int (iI x)), (2, .int (iI w)), (3, .int (iI m))] [] _ _ _ _
      refine pm_e_sim pm_a189_20 rfl ?_
      show pm_E _ _ _ 21 [(0, .ref 18), (1, .int (iI x)), (2, .int (iI w)), (3, .int (iI m))] [.int (iI m)] _ _ _ _
      refine pm_e_sim pm_a189_21 rfl ?_
      refine pm_l_top (y := lI (m)) (iI_l ⟨by omega, by omega⟩) ?_
      show pm_E _ _ _ 22 [(0, .ref 18), (1, .int (iI x)), (2, .int (iI w)), (3, .int (iI m))] [.long (lI m)] _ _ _ _
      refine pm_e_sim pm_a189_22 rfl ?_
      refine pm_l_top (y := lI 0) (by decide +kernel) ?_
      show pm_E _ _ _ 23 [(0, .ref 18), (1, .int (iI x)), (2, .int (iI w)), (3, .int (iI m))] [.long (lI 0), .long (lI m)] _ _ _ _
      refine pm_e_rd pm_a189_23 rfl rfl rfl ?_
      refine pm_l_top (y := lI 200) (by decide +kernel) ?_
      show pm_E _ _ _ 26 [(0, .ref 18), (1, .int (iI x)), (2, .int (iI w)), (3, .int (iI m))] [.long (lI 200), .long (lI 0), .long (lI m)] _ _ _ _
      refine pm_e_call (T2 := pm_mm147) pm_a189_26 rfl rfl rfl rfl rfl rfl rfl rfl rfl ?_
      show pm_E none _ _ 0 [(0, .long (lI m)), (2, .long (lI 0)), (4, .long (lI 200))] [] _ _ _ _
      refine M_in ⟨by omega, by omega⟩ ⟨by omega, by omega⟩ ⟨by omega, by omega⟩ (fun h_3 => ?_) (fun h_3 => ?_)
      · skip
        show pm_E _ _ _ 29 [(0, .ref 18), (1, .int (iI x)), (2, .int (iI w)), (3, .int (iI m))] [.int (iI 1)] _ _ _ _
        refine pm_e_ift pm_a189_29 rfl (by decide +kernel) ?_
        show pm_E _ _ _ 34 [(0, .ref 18), (1, .int (iI x)), (2, .int (iI w)), (3, .int (iI m))] [] _ _ _ _
        refine pm_e_sim pm_a189_34 rfl ?_
        show pm_E _ _ _ 35 [(0, .ref 18), (1, .int (iI x)), (2, .int (iI w)), (3, .int (iI m))] [.ref 18] _ _ _ _
        refine pm_e_sim pm_a189_35 rfl ?_
        show pm_E _ _ _ 36 [(0, .ref 18), (1, .int (iI x)), (2, .int (iI w)), (3, .int (iI m))] [.int (iI x), .ref 18] _ _ _ _
        refine pm_i_callv (k := 18) (T2 := pm_mm168) pm_a189_36 rfl rfl rfl (mh_get (j := 0) hA rfl) ⟨Nat.le_of_ble_eq_true rfl, Nat.le_of_ble_eq_true rfl, rfl, by decide +kernel⟩ ?_
        show pm_E none _ _ 0 [(0, .ref 18), (1, .int (iI x))] [] _ _ _ _
        obtain ⟨tl, ft, tt⟩ := hok.2.2 x (by omega) (by omega)
        have tp := tL_pos tt
        have ts := (hsh.2 x (by omega) (by omega)).1
        have tk := sh_take hsh (x := x) (by omega) (by omega)
        refine M_take hA (by omega) (by omega) (by omega) (by omega) (fun s1 a1 es ea => ?_)
        have e6 : s1 6 = (T x).length := by rw [es, ← ts]; rfl
        have t1 : tm (a1 4) ft 0 0 (s1 6) := by rw [e6, ea]; exact tL_tm0 tt tk
        have hr1 : ∀ j, in32 (a1 4 j) := fun j => by rw [ea]; exact cpI_in (hin 4) (hin 2) j
        have g1 : rg (a1 4) (T x).length 0 = T x := by rw [ea]; exact tk
        show pm_E _ _ _ 39 [(0, .ref 18), (1, .int (iI x)), (2, .int (iI w)), (3, .int (iI m))] [] _ _ _ _
        refine pm_e_sim pm_a189_39 rfl ?_
        show pm_E _ _ _ 40 [(0, .ref 18), (1, .int (iI x)), (2, .int (iI w)), (3, .int (iI m))] [.ref 18] _ _ _ _
        refine pm_e_sim pm_a189_40 rfl ?_
        refine pm_e_top (y := iI 1) (by decide +kernel) ?_
        show pm_E _ _ _ 41 [(0, .ref 18), (1, .int (iI x)), (2, .int (iI w)), (3, .int (iI m))] [.int (iI 1), .ref 18] _ _ _ _
        refine pm_i_put pm_a189_41 rfl (mh_get (j := 0) hA rfl) rfl (Nat.le_of_ble_eq_true rfl) (Or.inl rfl) (mw_30 hA _) ?_
        show pm_E _ _ _ 44 [(0, .ref 18), (1, .int (iI x)), (2, .int (iI w)), (3, .int (iI m))] [] _ _ _ _
        refine pm_e_sim pm_a189_44 rfl ?_
        show pm_E _ _ _ 45 [(0, .ref 18), (1, .int (iI x)), (2, .int (iI w)), (3, .int (iI m))] [.ref 18] _ _ _ _
        refine pm_e_sim pm_a189_45 rfl ?_
        refine pm_e_top (y := iI 0) (by decide +kernel) ?_
        show pm_E _ _ _ 46 [(0, .ref 18), (1, .int (iI x)), (2, .int (iI w)), (3, .int (iI m))] [.int (iI 0), .ref 18] _ _ _ _
        refine pm_i_put pm_a189_46 rfl (mh_get (j := 0) hA rfl) rfl (Nat.le_of_ble_eq_true rfl) (Or.inl rfl) (mw_31 hA _) ?_
        show pm_E _ _ _ 49 [(0, .ref 18), (1, .int (iI x)), (2, .int (iI w)), (3, .int (iI m))] [] _ _ _ _
        refine pm_e_sim pm_a189_49 rfl ?_
        refine pm_e_top (y := iI 0) (by decide +kernel) ?_
        show pm_E _ _ _ 50 [(0, .ref 18), (1, .int (iI x)), (2, .int (iI w)), (3, .int (iI m))] [.int (iI 0)] _ _ _ _
        refine pm_e_sim pm_a189_50 rfl ?_
        show pm_E _ _ _ 52 [(0, .ref 18), (1, .int (iI x)), (2, .int (iI w)), (3, .int (iI m)), (4, .int (iI 0))] [] _ _ _ _
        refine pm_e_sim pm_a189_52 rfl ?_
        refine pm_e_top (y := iI 1) (by decide +kernel) ?_
        show pm_E _ _ _ 53 [(0, .ref 18), (1, .int (iI x)), (2, .int (iI w)), (3, .int (iI m)), (4, .int (iI 0))] [.int (iI 1)] _ _ _ _
        refine pm_e_sim pm_a189_53 rfl ?_
        show pm_E _ _ _ 55 [(0, .ref 18), (1, .int (iI x)), (2, .int (iI w)), (3, .int (iI m)), (4, .int (iI 0)), (5, .int (iI 1))] [] _ _ _ _
        refine M_steps_l hA (by omega) (by omega) (by omega) (by omega) (401 + 1) 0 1 (l := T x) (ff := ft) _ _ (by omega) (by omega) (Or.inl rfl) (fun _ => rfl) hr1 (fun j => by rw [ea]; exact hin 16 j) tl tt ⟨show (0 : Int) ≤ 0 by omega, show (0 : Int) ≤ 500 by omega⟩ (show s1 6 = _ from e6) g1 ?_ (by omega)
        intro s2 a2 l' i' _ hst9 fS fA e2 g2 o'
        have hst : stx w (m - 0).toNat 0 (T x) (i' - 0) (s2 30) (s2 31) l' := hst9 rfl
        rw [Int.sub_zero, Int.sub_zero] at hst
        refine pm_e_sim pm_a189_146 rfl ?_
        show pm_E _ _ _ 147 [(0, .ref 18), (1, .int (iI x)), (2, .int (iI w)), (3, .int (iI m)), (4, .int (iI (i'))), (5, .int (iI (o')))] [.ref 18] _ _ _ _
        refine pm_e_sim pm_a189_147 rfl ?_
        show pm_E _ _ _ 148 [(0, .ref 18), (1, .int (iI x)), (2, .int (iI w)), (3, .int (iI m)), (4, .int (iI (i'))), (5, .int (iI (o')))] [.int (iI x), .ref 18] _ _ _ _
        refine pm_i_callv (k := 18) (T2 := pm_mm162) pm_a189_148 rfl rfl rfl (mh_get (j := 0) hA rfl) ⟨Nat.le_of_ble_eq_true rfl, Nat.le_of_ble_eq_true rfl, rfl, by decide +kernel⟩ ?_
        show pm_E none _ _ 0 [(0, .ref 18), (1, .int (iI x))] [] _ _ _ _
        have e12 : a2 1 = a 1 := by rw [fA 1 (by omega) (by omega) (by omega) (by omega) (by omega), ea]; rfl
        have e22 : a2 2 = a 2 := by rw [fA 2 (by omega) (by omega) (by omega) (by omega) (by omega), ea]; rfl
        have e32 : a2 3 = a 3 := by rw [fA 3 (by omega) (by omega) (by omega) (by omega) (by omega), ea]; rfl
        obtain ⟨l5, F5, t5⟩ := sts_ok tl tt (stx_sts hst)
        refine M_keep hA (by omega) (by omega) (by omega) (by omega) (fun a3 e3 => ?_)
        have hs3 : ∀ t, 0 ≤ t → t < n → a3 1 t = (upT T x l' t).length ∧ rg (a3 2) (upT T x l' t).length (500 * t) = upT T x l' t := by
          rw [e3]
          exact sh_keep (by omega) (fun t z y _ => by rw [e12, e22]; exact ⟨(okk t z y).1, hsh.2 t z y⟩) l5 g2 e2
        show pm_E _ _ _ 151 [(0, .ref 18), (1, .int (iI x)), (2, .int (iI w)), (3, .int (iI m)), (4, .int (iI (i'))), (5, .int (iI (o')))] [] _ _ _ _
        refine pm_e_sim pm_a189_151 rfl ?_
        show pm_E _ _ _ 153 [(0, .ref 18), (1, .int (iI x)), (2, .int (iI w)), (3, .int (iI m)), (4, .int (iI (i'))), (5, .int (iI (o')))] [.int (iI (i'))] _ _ _ _
        refine pm_e_ret pm_a189_153 rfl rfl rfl rfl rfl rfl rfl rfl ?_
        refine k _ l' s2 a3 (by omega) hst ⟨?_, hs3⟩ ?_ ?_
        · rw [fS 0 (by omega) (by omega) (by omega) (by omega), es]; exact s0
        · exact ⟨by rw [fS 4 (by omega) (by omega) (by omega) (by omega), es]; rfl, by rw [fS 45 (by omega) (by omega) (by omega) (by omega), es]; rfl, by rw [fS 13 (by omega) (by omega) (by omega) (by omega), es]; rfl⟩
        · rw [e3, ← e32]; rfl
      · skip
        show pm_E _ _ _ 29 [(0, .ref 18), (1, .int (iI x)), (2, .int (iI w)), (3, .int (iI m))] [.int (iI 0)] _ _ _ _
        refine pm_e_iff pm_a189_29 rfl (by decide +kernel) ?_
        show pm_E _ _ _ 32 [(0, .ref 18), (1, .int (iI x)), (2, .int (iI w)), (3, .int (iI m))] [] _ _ _ _
        refine pm_e_sim pm_a189_32 rfl ?_
        refine pm_e_top (y := iI (-1)) (by decide +kernel) ?_
        show pm_E _ _ _ 33 [(0, .ref 18), (1, .int (iI x)), (2, .int (iI w)), (3, .int (iI m))] [.int (iI (-1))] _ _ _ _
        refine pm_e_ret pm_a189_33 rfl rfl rfl rfl rfl rfl rfl rfl ?_
        exact kb (by omega)
    · skip
      show pm_E _ _ _ 17 [(0, .ref 18), (1, .int (iI x)), (2, .int (iI w)), (3, .int (iI m))] [.int (iI 0)] _ _ _ _
      refine pm_e_ift pm_a189_17 rfl (by decide +kernel) ?_
      show pm_E _ _ _ 32 [(0, .ref 18), (1, .int (iI x)), (2, .int (iI w)), (3, .int (iI m))] [] _ _ _ _
      refine pm_e_sim pm_a189_32 rfl ?_
      refine pm_e_top (y := iI (-1)) (by decide +kernel) ?_
      show pm_E _ _ _ 33 [(0, .ref 18), (1, .int (iI x)), (2, .int (iI w)), (3, .int (iI m))] [.int (iI (-1))] _ _ _ _
      refine pm_e_ret pm_a189_33 rfl rfl rfl rfl rfl rfl rfl rfl ?_
      exact kb (by omega)
  · skip
    show pm_E _ _ _ 5 [(0, .ref 18), (1, .int (iI x)), (2, .int (iI w)), (3, .int (iI m))] [.int (iI 0)] _ _ _ _
    refine pm_e_ift pm_a189_5 rfl (by decide +kernel) ?_
    show pm_E _ _ _ 32 [(0, .ref 18), (1, .int (iI x)), (2, .int (iI w)), (3, .int (iI m))] [] _ _ _ _
    refine pm_e_sim pm_a189_32 rfl ?_
    refine pm_e_top (y := iI (-1)) (by decide +kernel) ?_
    show pm_E _ _ _ 33 [(0, .ref 18), (1, .int (iI x)), (2, .int (iI w)), (3, .int (iI m))] [.int (iI (-1))] _ _ _ _
    refine pm_e_ret pm_a189_33 rfl rfl rfl rfl rfl rfl rfl rfl ?_
    exact kb (by omega)
