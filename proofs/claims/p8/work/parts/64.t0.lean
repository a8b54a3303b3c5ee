/-! THE CLASS: Teller: what it tells, exactly -/
def teO (s : Nat → Int) : Prop := (0 ≤ s 14 ∧ s 14 < 2147483648) ∧ in32 (s 15) ∧ in32 (s 16) ∧ in32 (s 17) ∧ in32 (s 18)
def teF (s : Nat → Int) (a : Nat → Int → Int) (s' : Nat → Int) (a' : Nat → Int → Int) : Prop := (∀ i, i < 14 ∨ 18 < i → s' i = s i) ∧ (∀ i, i ≠ 6 → a' i = a i) ∧ ((0 ≤ s' 14 ∧ s' 14 < 2147483648) ∧ True)
/-- the byte that is wanted, of those told -/
def fnd (w : Int) (X : List Int) : Int := if 0 ≤ w ∧ w < X.length then X.getD w.toNat 0 else -1
theorem fnd_s {w x : Int} {X : List Int} : fnd w (X ++ [x]) = if w = X.length then x else fnd w X := by
  unfold fnd
  rw [List.length_append, List.length_singleton]
  by_cases c : w = X.length
  · rw [if_pos c, if_pos ⟨by omega, by omega⟩, show w.toNat = X.length by omega, List.getD_eq_getElem?_getD, List.getElem?_append_right (Nat.le_refl _), Nat.sub_self]
    rfl
  · rw [if_neg c]
    by_cases c2 : 0 ≤ w ∧ w < X.length
    · rw [if_pos c2, if_pos ⟨by omega, by omega⟩, List.getD_eq_getElem?_getD, List.getD_eq_getElem?_getD, List.getElem?_append_left (by omega)]
    · rw [if_neg c2, if_neg (by omega)]
theorem fnd_p {w : Int} {X R : List Int} (h : fnd w X ≠ -1) : ltR (X ++ R) w (fnd w X) := by
  unfold fnd at h ⊢
  by_cases c : 0 ≤ w ∧ w < X.length
  · rw [if_pos c]
    refine Or.inl ⟨c.1, by rw [List.length_append]; omega, ?_⟩
    rw [List.getD_eq_getElem?_getD, List.getD_eq_getElem?_getD, List.getElem?_append_left (by omega)]
  · rw [if_neg c] at h
    exact absurd rfl h
theorem fnd_n {w : Int} {X : List Int} (hp : ∀ v ∈ X, 0 ≤ v) (h : fnd w X = -1) (hw : w ≠ X.length) : ltR X w (-1) := by
  unfold fnd at h
  by_cases c : 0 ≤ w ∧ w < X.length
  · rw [if_pos c, List.getD_eq_getElem?_getD, List.getElem?_eq_getElem (by omega)] at h
    have h2 := hp _ (List.getElem_mem (l := X) (n := w.toNat) (by omega))
    have h3 : X[w.toNat]'(by omega) = -1 := h
    omega
  · exact Or.inr ⟨by omega, rfl⟩
theorem fnd_e {X : List Int} {w : Int} (h : w = X.length) : ltR X w 0 := Or.inl ⟨by omega, by omega, by rw [show w.toNat = X.length by omega, getD_len]⟩
def teX (s : Nat → Int) (X : List Int) : Prop := s 17 = X.length ∧ s 18 = fnd (s 16) X ∧ in32 (s 16) ∧ X.length ≤ 3100
theorem andn5 {u w : Int} (hu : u = 0 ∨ u = 1 ∨ u = 2) (hw : w = 0 ∨ w = 4) : iI (u + w) &&& iI (-5) = iI u := by
  rcases hu with h | h | h <;> rcases hw with h2 | h2 <;> subst h <;> subst h2 <;> decide +kernel
theorem and4 {u w : Int} (hu : u = 0 ∨ u = 1 ∨ u = 2) (hw : w = 0 ∨ w = 4) : iI (u + w) &&& iI 4 = iI w := by
  rcases hu with h | h | h <;> rcases hw with h2 | h2 <;> subst h <;> subst h2 <;> decide +kernel
theorem or1 {u w : Int} (hu : u = 0) (hw : w = 0 ∨ w = 4) : iI (u + w) ||| iI 1 = iI (1 + w) := by
  rcases hw with h2 | h2 <;> subst hu <;> subst h2 <;> decide +kernel
/-- what is around: kind, and 4 where it is wrapped -/
def stR (st : List (Int × Int)) (s : Nat → Int) (a : Nat → Int → Int) : Prop := s 14 = st.length ∧ rg (a 6) st.length 0 = (st.map (fun x => x.1 + x.2)).reverse ∧ (∀ x ∈ st, (x.1 = 0 ∨ x.1 = 1 ∨ x.1 = 2) ∧ (x.2 = 0 ∨ x.2 = 4)) ∧ st.length ≤ 500
def isw : List (Int × Int) → Int → Bool
  | [], _ => false
  | x :: _, c => decide ((x.1 = 0 ∧ c = 1) ∨ (x.1 = 1 ∧ (c = 1 ∨ c = 0)))
def lvX : List (Int × Int) → List Int
  | [] => []
  | x :: r => if x.1 = 0 then [32] else (if x.2 = 0 then [] else [41]) ++ lvX r
def lvS : List (Int × Int) → List (Int × Int)
  | [] => []
  | x :: r => if x.1 = 0 then (1, x.2) :: r else lvS r
def lvD : List (Int × Int) → Int
  | [] => 0
  | x :: r => if x.1 = 0 then 0 else (if x.1 = 2 then 1 else 0) + lvD r
section
variable {u w : Int} {r st : List (Int × Int)} {s s' : Nat → Int} {a a' : Nat → Int → Int}
theorem lvX_0 (h : u = 0) : lvX ((u, w) :: r) = [32] := if_pos h
theorem lvX_1 (h : u ≠ 0) (h2 : w = 0) : lvX ((u, w) :: r) = lvX r := by show (if u = 0 then [32] else (if w = 0 then [] else [41]) ++ lvX r) = _; rw [if_neg h, if_pos h2]; rfl
theorem lvX_2 (h : u ≠ 0) (h2 : w ≠ 0) : lvX ((u, w) :: r) = [41] ++ lvX r := by show (if u = 0 then [32] else (if w = 0 then [] else [41]) ++ lvX r) = _; rw [if_neg h, if_neg h2]
theorem lvS_0 (h : u = 0) : lvS ((u, w) :: r) = (1, w) :: r := if_pos h
theorem lvS_1 (h : u ≠ 0) : lvS ((u, w) :: r) = lvS r := if_neg h
theorem lvD_0 (h : u = 0) : lvD ((u, w) :: r) = 0 := if_pos h
theorem lvD_1 (h : u ≠ 0) (h2 : u ≠ 2) : lvD ((u, w) :: r) = lvD r := by show (if u = 0 then 0 else (if u = 2 then 1 else 0) + lvD r) = _; rw [if_neg h, if_neg h2]; omega
theorem lvD_2 (h : u = 2) : lvD ((u, w) :: r) = 1 + lvD r := by show (if u = 0 then 0 else (if u = 2 then 1 else 0) + lvD r) = _; rw [if_neg (by omega), if_pos h]
theorem lvS_len : ∀ (st : List (Int × Int)), (lvS st).length ≤ st.length
  | [] => Nat.le_refl 0
  | (u, w) :: r => by
    by_cases h : u = 0
    · rw [lvS_0 h]; simp
    · rw [lvS_1 h]; have := lvS_len r; simp; omega
theorem stR_top (h : stR ((u, w) :: r) s a) : a 6 (r.length : Int) = u + w ∧ rg (a 6) r.length 0 = (r.map (fun x => x.1 + x.2)).reverse := by
  obtain ⟨_, h2, _⟩ := h
  have h3 : rg (a 6) (r.length + 1) 0 = (r.map (fun x => x.1 + x.2)).reverse ++ [u + w] := by
    have e : (((u, w) :: r).map (fun x => x.1 + x.2)).reverse = (r.map (fun x => x.1 + x.2)).reverse ++ [u + w] := by rw [List.map_cons, List.reverse_cons]
    rw [← e]
    exact h2
  rw [rg_snoc] at h3
  obtain ⟨h4, h5⟩ := List.append_inj h3 (by rw [rg_len, List.length_reverse, List.length_map])
  have h6 := (List.cons.inj h5).1
  rw [show (0 : Int) + (r.length : Int) = r.length by omega] at h6
  exact ⟨h6, h4⟩
theorem stR_pop (h : stR ((u, w) :: r) s a) (h14 : s' 14 = r.length) : stR r s' a := ⟨h14, (stR_top h).2, fun y hy => h.2.2.1 y (List.mem_cons_of_mem _ hy), by have := h.2.2.2; simp at this; omega⟩
theorem stR_psh {v : Int} {u' w' : Int} (hg : rg (a 6) r.length 0 = (r.map (fun x => x.1 + x.2)).reverse) (hk : ∀ x ∈ r, (x.1 = 0 ∨ x.1 = 1 ∨ x.1 = 2) ∧ (x.2 = 0 ∨ x.2 = 4)) (hu : u' = 0 ∨ u' = 1 ∨ u' = 2) (hw : w' = 0 ∨ w' = 4) (hv : v = u' + w') (hl : r.length < 500) (h14 : s' 14 = r.length + 1) {m : Int} (hm : m = r.length) (h6 : a' 6 = updI (a 6) m v) : stR ((u', w') :: r) s' a' := by
  refine ⟨by rw [h14]; simp, ?_, fun y hy => ?_, by simp; omega⟩
  · rw [h6, List.map_cons, List.reverse_cons]
    show rg (updI (a 6) m v) (r.length + 1) 0 = _
    have e := rg_ext (g := a 6) (l := (r.map (fun x => x.1 + x.2)).reverse) (n := m) (by rw [List.length_reverse, List.length_map]; exact hg) (by rw [List.length_reverse, List.length_map]; exact hm) v
    rw [List.length_append, List.length_reverse, List.length_map, List.length_singleton, hv] at e
    rw [hv]
    exact e
  · rcases List.mem_cons.mp hy with h | h
    · rw [h]; exact ⟨hu, hw⟩
    · exact hk y h
end
set_option maxHeartbeats 4000000 in
set_option maxRecDepth 100000 in
theorem C_e_tell {d n : Nat} {kd pl : Nat → Nat} {s : Nat → Int} {a : Nat → Int → Int} {c : Nat → cdt} {M : List va_E} {Q : Option Value → List va_E → Nat → Nat → Prop} {x : Int} {X : List Int} (hW : wf n kd pl) (hT : teX s X) (hl : X.length < 3100) (k : ∀ s', (∀ i, i ≠ 17 → i ≠ 18 → s' i = s i) → teX s' (X ++ [x]) → Q none (ch n kd pl s' a c M) 0 0) : pm_E none d pm_mm52 0 [(0, .ref (pl 13)), (1, .int (iI x))] [] (ch n kd pl s a c M) 0 0 Q := by
  obtain ⟨t1, t2, t3, t4⟩ := id hT
  obtain ⟨_, _⟩ := id t3
  refine pm_e_sim pm_a52_0 rfl ?_
  show pm_E _ _ _ 1 [(0, .ref (pl 13)), (1, .int (iI x))] [.ref (pl 13)] _ _ _ _
  refine pm_i_get pm_a52_1 rfl (cg_13 hW) rfl ?_
  show pm_E _ _ _ 4 [(0, .ref (pl 13)), (1, .int (iI x))] [.int (iI (s 17))] _ _ _ _
  refine pm_e_sim pm_a52_4 rfl ?_
  show pm_E _ _ _ 5 [(0, .ref (pl 13)), (1, .int (iI x))] [.ref (pl 13), .int (iI (s 17))] _ _ _ _
  refine pm_i_get pm_a52_5 rfl (cg_13 hW) rfl ?_
  show pm_E _ _ _ 8 [(0, .ref (pl 13)), (1, .int (iI x))] [.int (iI (s 16)), .int (iI (s 17))] _ _ _ _
  refine pm_c_ne (t := 16) pm_a52_8 rfl ⟨by omega, by omega⟩ ⟨by omega, by omega⟩ (fun h_1 => ?_) (fun h_1 => ?_)
  · skip
    show pm_E _ _ _ 16 [(0, .ref (pl 13)), (1, .int (iI x))] [] _ _ _ _
    refine pm_e_sim pm_a52_16 rfl ?_
    show pm_E _ _ _ 17 [(0, .ref (pl 13)), (1, .int (iI x))] [.ref (pl 13)] _ _ _ _
    refine pm_e_sim pm_a52_17 rfl ?_
    show pm_E _ _ _ 18 [(0, .ref (pl 13)), (1, .int (iI x))] [.ref (pl 13), .ref (pl 13)] _ _ _ _
    refine pm_i_get pm_a52_18 rfl (cg_13 hW) rfl ?_
    show pm_E _ _ _ 21 [(0, .ref (pl 13)), (1, .int (iI x))] [.int (iI (s 17)), .ref (pl 13)] _ _ _ _
    refine pm_e_sim pm_a52_21 rfl ?_
    refine pm_e_top (y := iI 1) (by decide +kernel) ?_
    show pm_E _ _ _ 22 [(0, .ref (pl 13)), (1, .int (iI x))] [.int (iI 1), .int (iI (s 17)), .ref (pl 13)] _ _ _ _
    refine pm_e_sim pm_a52_22 rfl ?_
    refine pm_e_top (y := iI (s 17 + 1)) (iI_add _ _) ?_
    show pm_E _ _ _ 23 [(0, .ref (pl 13)), (1, .int (iI x))] [.int (iI (s 17 + 1)), .ref (pl 13)] _ _ _ _
    refine pm_i_put pm_a52_23 rfl (cg_13 hW) rfl (Nat.le_of_ble_eq_true rfl) (Or.inl rfl) (cw_17 hW (s 17 + 1)) ?_
    show pm_E _ _ _ 26 [(0, .ref (pl 13)), (1, .int (iI x))] [] _ _ _ _
    refine pm_e_ret pm_a52_26 rfl rfl rfl rfl rfl rfl rfl rfl ?_
    exact k _ (fun i n17 _ => updS_o n17) ⟨by show s 17 + 1 = _; rw [List.length_append, List.length_singleton]; omega, by show s 18 = fnd (s 16) (X ++ [x]); rw [fnd_s, if_neg (by omega)]; exact t2, t3, by rw [List.length_append, List.length_singleton]; omega⟩
  · skip
    show pm_E _ _ _ 11 [(0, .ref (pl 13)), (1, .int (iI x))] [] _ _ _ _
    refine pm_e_sim pm_a52_11 rfl ?_
    show pm_E _ _ _ 12 [(0, .ref (pl 13)), (1, .int (iI x))] [.ref (pl 13)] _ _ _ _
    refine pm_e_sim pm_a52_12 rfl ?_
    show pm_E _ _ _ 13 [(0, .ref (pl 13)), (1, .int (iI x))] [.int (iI x), .ref (pl 13)] _ _ _ _
    refine pm_i_put pm_a52_13 rfl (cg_13 hW) rfl (Nat.le_of_ble_eq_true rfl) (Or.inl rfl) (cw_18 hW x) ?_
    show pm_E _ _ _ 16 [(0, .ref (pl 13)), (1, .int (iI x))] [] _ _ _ _
    refine pm_e_sim pm_a52_16 rfl ?_
    show pm_E _ _ _ 17 [(0, .ref (pl 13)), (1, .int (iI x))] [.ref (pl 13)] _ _ _ _
    refine pm_e_sim pm_a52_17 rfl ?_
    show pm_E _ _ _ 18 [(0, .ref (pl 13)), (1, .int (iI x))] [.ref (pl 13), .ref (pl 13)] _ _ _ _
    refine pm_i_get pm_a52_18 rfl (cg_13 hW) rfl ?_
    show pm_E _ _ _ 21 [(0, .ref (pl 13)), (1, .int (iI x))] [.int (iI (s 17)), .ref (pl 13)] _ _ _ _
    refine pm_e_sim pm_a52_21 rfl ?_
    refine pm_e_top (y := iI 1) (by decide +kernel) ?_
    show pm_E _ _ _ 22 [(0, .ref (pl 13)), (1, .int (iI x))] [.int (iI 1), .int (iI (s 17)), .ref (pl 13)] _ _ _ _
    refine pm_e_sim pm_a52_22 rfl ?_
    refine pm_e_top (y := iI (s 17 + 1)) (iI_add _ _) ?_
    show pm_E _ _ _ 23 [(0, .ref (pl 13)), (1, .int (iI x))] [.int (iI (s 17 + 1)), .ref (pl 13)] _ _ _ _
    refine pm_i_put pm_a52_23 rfl (cg_13 hW) rfl (Nat.le_of_ble_eq_true rfl) (Or.inl rfl) (cw_17 hW (s 17 + 1)) ?_
    show pm_E _ _ _ 26 [(0, .ref (pl 13)), (1, .int (iI x))] [] _ _ _ _
    refine pm_e_ret pm_a52_26 rfl rfl rfl rfl rfl rfl rfl rfl ?_
    exact k _ (fun i n17 n18 => by simp only [updS]; rw [if_neg n17, if_neg n18]) ⟨by show s 17 + 1 = _; rw [List.length_append, List.length_singleton]; omega, by show x = fnd (s 16) (X ++ [x]); rw [fnd_s, if_pos (by omega)], t3, by rw [List.length_append, List.length_singleton]; omega⟩
set_option maxHeartbeats 4000000 in
set_option maxRecDepth 100000 in
theorem C_e_tellName {d n : Nat} {kd pl : Nat → Nat} {s : Nat → Int} {a : Nat → Int → Int} {c : Nat → cdt} {M : List va_E} {Q : Option Value → List va_E → Nat → Nat → Prop} {x : Int} {X : List Int} (hW : wf n kd pl) (hT : teX s X) (hx : 0 ≤ x) (hx1 : x ≤ 2000) (hl : X.length + 2 ≤ 3100) (k : ∀ s', (∀ i, i ≠ 17 → i ≠ 18 → s' i = s i) → teX s' (X ++ nmC x) → Q none (ch n kd pl s' a c M) 0 0) : pm_E none (d + 1) pm_mm54 0 [(0, .ref (pl 13)), (1, .int (iI x))] [] (ch n kd pl s a c M) 0 0 Q := by
  refine pm_e_sim pm_a54_0 rfl ?_
  show pm_E _ _ _ 1 [(0, .ref (pl 13)), (1, .int (iI x))] [.int (iI x)] _ _ _ _
  refine pm_e_sim pm_a54_1 rfl ?_
  refine pm_e_top (y := iI 26) (by decide +kernel) ?_
  show pm_E _ _ _ 3 [(0, .ref (pl 13)), (1, .int (iI x))] [.int (iI 26), .int (iI x)] _ _ _ _
  refine pm_c_lt (t := 19) pm_a54_3 rfl ⟨by omega, by omega⟩ ⟨by omega, by omega⟩ (fun h_1 => ?_) (fun h_1 => ?_)
  · skip
    show pm_E _ _ _ 19 [(0, .ref (pl 13)), (1, .int (iI x))] [] _ _ _ _
    refine pm_e_sim pm_a54_19 rfl ?_
    show pm_E _ _ _ 20 [(0, .ref (pl 13)), (1, .int (iI x))] [.ref (pl 13)] _ _ _ _
    refine pm_e_sim pm_a54_20 rfl ?_
    refine pm_e_top (y := iI 97) (by decide +kernel) ?_
    show pm_E _ _ _ 22 [(0, .ref (pl 13)), (1, .int (iI x))] [.int (iI 97), .ref (pl 13)] _ _ _ _
    refine pm_e_sim pm_a54_22 rfl ?_
    show pm_E _ _ _ 23 [(0, .ref (pl 13)), (1, .int (iI x))] [.int (iI x), .int (iI 97), .ref (pl 13)] _ _ _ _
    refine pm_e_sim pm_a54_23 rfl ?_
    refine pm_e_top (y := iI 26) (by decide +kernel) ?_
    show pm_E _ _ _ 25 [(0, .ref (pl 13)), (1, .int (iI x))] [.int (iI 26), .int (iI x), .int (iI 97), .ref (pl 13)] _ _ _ _
    refine pm_i_rmx (z := iI (x % 26)) pm_a54_25 (by decide +kernel) (iI_rm26 (by omega) (by omega)) ?_
    show pm_E _ _ _ 26 [(0, .ref (pl 13)), (1, .int (iI x))] [.int (iI (x % 26)), .int (iI 97), .ref (pl 13)] _ _ _ _
    refine pm_e_sim pm_a54_26 rfl ?_
    refine pm_e_top (y := iI (97 + (x % 26))) (iI_add _ _) ?_
    show pm_E _ _ _ 27 [(0, .ref (pl 13)), (1, .int (iI x))] [.int (iI (97 + (x % 26))), .ref (pl 13)] _ _ _ _
    refine pm_i_callv (k := (pl 13)) (T2 := pm_mm52) pm_a54_27 rfl rfl rfl (cg_13 hW) ⟨Nat.le_of_ble_eq_true rfl, Nat.le_of_ble_eq_true rfl, rfl, by decide +kernel⟩ ?_
    show pm_E none _ _ 0 [(0, .ref (pl 13)), (1, .int (iI (97 + (x % 26))))] [] _ _ _ _
    refine C_e_tell (X := X) hW hT (by first | omega | (simp only [List.length_append, List.length_cons, List.length_nil]; omega)) (fun s_2 g_2 t_2 => ?_)
    show pm_E _ _ _ 30 [(0, .ref (pl 13)), (1, .int (iI x))] [] _ _ _ _
    refine pm_e_ret pm_a54_30 rfl rfl rfl rfl rfl rfl rfl rfl ?_
    have e9 : X ++ nmC x = (X ++ [97 + (x % 26)]) := by unfold nmC; rw [if_neg (by omega), show 97 + x = 97 + x % 26 by omega]
    rw [← e9] at t_2
    exact k _ g_2 t_2
  · skip
    show pm_E _ _ _ 6 [(0, .ref (pl 13)), (1, .int (iI x))] [] _ _ _ _
    refine pm_e_sim pm_a54_6 rfl ?_
    show pm_E _ _ _ 7 [(0, .ref (pl 13)), (1, .int (iI x))] [.ref (pl 13)] _ _ _ _
    refine pm_e_sim pm_a54_7 rfl ?_
    refine pm_e_top (y := iI 97) (by decide +kernel) ?_
    show pm_E _ _ _ 9 [(0, .ref (pl 13)), (1, .int (iI x))] [.int (iI 97), .ref (pl 13)] _ _ _ _
    refine pm_e_sim pm_a54_9 rfl ?_
    show pm_E _ _ _ 10 [(0, .ref (pl 13)), (1, .int (iI x))] [.int (iI x), .int (iI 97), .ref (pl 13)] _ _ _ _
    refine pm_e_sim pm_a54_10 rfl ?_
    refine pm_e_top (y := iI 26) (by decide +kernel) ?_
    show pm_E _ _ _ 12 [(0, .ref (pl 13)), (1, .int (iI x))] [.int (iI 26), .int (iI x), .int (iI 97), .ref (pl 13)] _ _ _ _
    refine pm_i_dvx (z := iI (x / 26)) pm_a54_12 (by decide +kernel) (iI_dv26 (by omega) (by omega)) ?_
    show pm_E _ _ _ 13 [(0, .ref (pl 13)), (1, .int (iI x))] [.int (iI (x / 26)), .int (iI 97), .ref (pl 13)] _ _ _ _
    refine pm_e_sim pm_a54_13 rfl ?_
    refine pm_e_top (y := iI (97 + (x / 26))) (iI_add _ _) ?_
    show pm_E _ _ _ 14 [(0, .ref (pl 13)), (1, .int (iI x))] [.int (iI (97 + (x / 26))), .ref (pl 13)] _ _ _ _
    refine pm_e_sim pm_a54_14 rfl ?_
    refine pm_e_top (y := iI 1) (by decide +kernel) ?_
    show pm_E _ _ _ 15 [(0, .ref (pl 13)), (1, .int (iI x))] [.int (iI 1), .int (iI (97 + (x / 26))), .ref (pl 13)] _ _ _ _
    refine pm_e_sim pm_a54_15 rfl ?_
    refine pm_e_top (y := iI (97 + (x / 26) - 1)) (iI_sub _ _) ?_
    show pm_E _ _ _ 16 [(0, .ref (pl 13)), (1, .int (iI x))] [.int (iI (97 + (x / 26) - 1)), .ref (pl 13)] _ _ _ _
    refine pm_i_callv (k := (pl 13)) (T2 := pm_mm52) pm_a54_16 rfl rfl rfl (cg_13 hW) ⟨Nat.le_of_ble_eq_true rfl, Nat.le_of_ble_eq_true rfl, rfl, by decide +kernel⟩ ?_
    show pm_E none _ _ 0 [(0, .ref (pl 13)), (1, .int (iI (97 + (x / 26) - 1)))] [] _ _ _ _
    refine C_e_tell (X := X) hW hT (by first | omega | (simp only [List.length_append, List.length_cons, List.length_nil]; omega)) (fun s_3 g_3 t_3 => ?_)
    show pm_E _ _ _ 19 [(0, .ref (pl 13)), (1, .int (iI x))] [] _ _ _ _
    refine pm_e_sim pm_a54_19 rfl ?_
    show pm_E _ _ _ 20 [(0, .ref (pl 13)), (1, .int (iI x))] [.ref (pl 13)] _ _ _ _
    refine pm_e_sim pm_a54_20 rfl ?_
    refine pm_e_top (y := iI 97) (by decide +kernel) ?_
    show pm_E _ _ _ 22 [(0, .ref (pl 13)), (1, .int (iI x))] [.int (iI 97), .ref (pl 13)] _ _ _ _
    refine pm_e_sim pm_a54_22 rfl ?_
    show pm_E _ _ _ 23 [(0, .ref (pl 13)), (1, .int (iI x))] [.int (iI x), .int (iI 97), .ref (pl 13)] _ _ _ _
    refine pm_e_sim pm_a54_23 rfl ?_
    refine pm_e_top (y := iI 26) (by decide +kernel) ?_
    show pm_E _ _ _ 25 [(0, .ref (pl 13)), (1, .int (iI x))] [.int (iI 26), .int (iI x), .int (iI 97), .ref (pl 13)] _ _ _ _
    refine pm_i_rmx (z := iI (x % 26)) pm_a54_25 (by decide +kernel) (iI_rm26 (by omega) (by omega)) ?_
    show pm_E _ _ _ 26 [(0, .ref (pl 13)), (1, .int (iI x))] [.int (iI (x % 26)), .int (iI 97), .ref (pl 13)] _ _ _ _
    refine pm_e_sim pm_a54_26 rfl ?_
    refine pm_e_top (y := iI (97 + (x % 26))) (iI_add _ _) ?_
    show pm_E _ _ _ 27 [(0, .ref (pl 13)), (1, .int (iI x))] [.int (iI (97 + (x % 26))), .ref (pl 13)] _ _ _ _
    refine pm_i_callv (k := (pl 13)) (T2 := pm_mm52) pm_a54_27 rfl rfl rfl (cg_13 hW) ⟨Nat.le_of_ble_eq_true rfl, Nat.le_of_ble_eq_true rfl, rfl, by decide +kernel⟩ ?_
    show pm_E none _ _ 0 [(0, .ref (pl 13)), (1, .int (iI (97 + (x % 26))))] [] _ _ _ _
    refine C_e_tell (X := (X ++ [97 + (x / 26) - 1])) hW t_3 (by first | omega | (simp only [List.length_append, List.length_cons, List.length_nil]; omega)) (fun s_4 g_4 t_4 => ?_)
    show pm_E _ _ _ 30 [(0, .ref (pl 13)), (1, .int (iI x))] [] _ _ _ _
    refine pm_e_ret pm_a54_30 rfl rfl rfl rfl rfl rfl rfl rfl ?_
    have e9 : X ++ nmC x = ((X ++ [97 + (x / 26) - 1]) ++ [97 + (x % 26)]) := by unfold nmC; rw [if_pos (by omega), show 97 + (x - 26) / 26 = 97 + x / 26 - 1 by omega, show 97 + (x - 26) % 26 = 97 + x % 26 by omega]; simp only [List.append_assoc, List.cons_append, List.nil_append]
    rw [← e9] at t_4
    exact k _ (fun i a b => (g_4 i a b).trans (g_3 i a b)) t_4
set_option maxHeartbeats 4000000 in
set_option maxRecDepth 100000 in
theorem C_e_isW0 {d n : Nat} {kd pl : Nat → Nat} {s : Nat → Int} {a : Nat → Int → Int} {c : Nat → cdt} {M : List va_E} {Q : Option Value → List va_E → Nat → Nat → Prop} {x : Int} (hW : wf n kd pl) (h14 : s 14 = 0) (k : Q (some (.int (iI 0))) (ch n kd pl s a c M) 0 0) : pm_E none d pm_mm51 0 [(0, .ref (pl 13)), (1, .int (iI x))] [] (ch n kd pl s a c M) 0 0 Q := by
  refine pm_e_sim pm_a51_0 rfl ?_
  show pm_E _ _ _ 1 [(0, .ref (pl 13)), (1, .int (iI x))] [.ref (pl 13)] _ _ _ _
  refine pm_i_get pm_a51_1 rfl (cg_13 hW) rfl ?_
  show pm_E _ _ _ 4 [(0, .ref (pl 13)), (1, .int (iI x))] [.int (iI (s 14))] _ _ _ _
  refine pm_i_le (t := 19) pm_a51_4 rfl ⟨by omega, by omega⟩ (fun h_1 => ?_) (fun h_1 => ?_)
  · skip
    show pm_E _ _ _ 19 [(0, .ref (pl 13)), (1, .int (iI x))] [] _ _ _ _
    refine pm_e_sim pm_a51_19 rfl ?_
    refine pm_e_top (y := iI 0) (by decide +kernel) ?_
    show pm_E _ _ _ 20 [(0, .ref (pl 13)), (1, .int (iI x))] [.int (iI 0)] _ _ _ _
    refine pm_e_ret pm_a51_20 rfl rfl rfl rfl rfl rfl rfl rfl ?_
    exact k
  · skip
    exfalso; omega
set_option maxHeartbeats 4000000 in
set_option maxRecDepth 100000 in
theorem C_e_isW1 {d n : Nat} {kd pl : Nat → Nat} {s : Nat → Int} {a : Nat → Int → Int} {c : Nat → cdt} {M : List va_E} {Q : Option Value → List va_E → Nat → Nat → Prop} {x u w : Int} (hW : wf n kd pl) (h14 : 1 ≤ s 14) (h15 : s 14 ≤ 500) (hu : u = 0 ∨ u = 1 ∨ u = 2) (hw : w = 0 ∨ w = 4) (ht : a 6 (s 14 - 1) = u + w) (hx : in32 x) (k1 : ((u = 0 ∧ x = 1) ∨ (u = 1 ∧ (x = 1 ∨ x = 0))) → Q (some (.int (iI 1))) (ch n kd pl s a c M) 0 0) (k0 : ¬ ((u = 0 ∧ x = 1) ∨ (u = 1 ∧ (x = 1 ∨ x = 0))) → Q (some (.int (iI 0))) (ch n kd pl s a c M) 0 0) : pm_E none d pm_mm51 0 [(0, .ref (pl 13)), (1, .int (iI x))] [] (ch n kd pl s a c M) 0 0 Q := by
  obtain ⟨_, _⟩ := id hx
  refine pm_e_sim pm_a51_0 rfl ?_
  show pm_E _ _ _ 1 [(0, .ref (pl 13)), (1, .int (iI x))] [.ref (pl 13)] _ _ _ _
  refine pm_i_get pm_a51_1 rfl (cg_13 hW) rfl ?_
  show pm_E _ _ _ 4 [(0, .ref (pl 13)), (1, .int (iI x))] [.int (iI (s 14))] _ _ _ _
  refine pm_i_le (t := 19) pm_a51_4 rfl ⟨by omega, by omega⟩ (fun h_1 => ?_) (fun h_1 => ?_)
  · skip
    exfalso; omega
  · skip
    show pm_E _ _ _ 7 [(0, .ref (pl 13)), (1, .int (iI x))] [] _ _ _ _
    refine pm_e_sim pm_a51_7 rfl ?_
    show pm_E _ _ _ 8 [(0, .ref (pl 13)), (1, .int (iI x))] [.ref (pl 13)] _ _ _ _
    refine pm_i_get pm_a51_8 rfl (cg_13 hW) rfl ?_
    show pm_E _ _ _ 11 [(0, .ref (pl 13)), (1, .int (iI x))] [.int (iI (s 14))] _ _ _ _
    refine pm_e_sim pm_a51_11 rfl ?_
    show pm_E _ _ _ 12 [(0, .ref (pl 13)), (1, .int (iI x))] [.ref (pl 13), .int (iI (s 14))] _ _ _ _
    refine pm_i_get pm_a51_12 rfl (cg_13 hW) rfl ?_
    show pm_E _ _ _ 15 [(0, .ref (pl 13)), (1, .int (iI x))] [.ref (pl 14), .int (iI (s 14))] _ _ _ _
    refine pm_i_aln pm_a51_15 (cg_14 hW) ?_
    show pm_E _ _ _ 16 [(0, .ref (pl 13)), (1, .int (iI x))] [.int (iI 500), .int (iI (s 14))] _ _ _ _
    refine pm_c_le (t := 21) pm_a51_16 rfl ⟨by omega, by omega⟩ ⟨by omega, by omega⟩ (fun h_2 => ?_) (fun h_2 => ?_)
    · skip
      show pm_E _ _ _ 21 [(0, .ref (pl 13)), (1, .int (iI x))] [] _ _ _ _
      refine pm_e_sim pm_a51_21 rfl ?_
      show pm_E _ _ _ 22 [(0, .ref (pl 13)), (1, .int (iI x))] [.ref (pl 13)] _ _ _ _
      refine pm_i_get pm_a51_22 rfl (cg_13 hW) rfl ?_
      show pm_E _ _ _ 25 [(0, .ref (pl 13)), (1, .int (iI x))] [.ref (pl 14)] _ _ _ _
      refine pm_e_sim pm_a51_25 rfl ?_
      show pm_E _ _ _ 26 [(0, .ref (pl 13)), (1, .int (iI x))] [.ref (pl 13), .ref (pl 14)] _ _ _ _
      refine pm_i_get pm_a51_26 rfl (cg_13 hW) rfl ?_
      show pm_E _ _ _ 29 [(0, .ref (pl 13)), (1, .int (iI x))] [.int (iI (s 14)), .ref (pl 14)] _ _ _ _
      refine pm_e_sim pm_a51_29 rfl ?_
      refine pm_e_top (y := iI 1) (by decide +kernel) ?_
      show pm_E _ _ _ 30 [(0, .ref (pl 13)), (1, .int (iI x))] [.int (iI 1), .int (iI (s 14)), .ref (pl 14)] _ _ _ _
      refine pm_e_sim pm_a51_30 rfl ?_
      refine pm_e_top (y := iI (s 14 - 1)) (iI_sub _ _) ?_
      show pm_E _ _ _ 31 [(0, .ref (pl 13)), (1, .int (iI x))] [.int (iI (s 14 - 1)), .ref (pl 14)] _ _ _ _
      refine pm_i_ald pm_a51_31 (cg_14 hW) (by omega) (by omega) ⟨by omega, by omega⟩ ?_
      show pm_E _ _ _ 32 [(0, .ref (pl 13)), (1, .int (iI x))] [.int (iI ((a 6) (s 14 - 1)))] _ _ _ _
      refine pm_e_sim pm_a51_32 rfl ?_
      refine pm_e_top (y := iI (-5)) (by decide +kernel) ?_
      show pm_E _ _ _ 34 [(0, .ref (pl 13)), (1, .int (iI x))] [.int (iI (-5)), .int (iI ((a 6) (s 14 - 1)))] _ _ _ _
      refine pm_e_sim pm_a51_34 rfl ?_
      refine pm_e_top (y := iI u) (by rw [ht]; exact andn5 hu hw) ?_
      show pm_E _ _ _ 35 [(0, .ref (pl 13)), (1, .int (iI x))] [.int (iI u)] _ _ _ _
      refine pm_e_sim pm_a51_35 rfl ?_
      show pm_E _ _ _ 36 [(0, .ref (pl 13)), (1, .int (iI x)), (2, .int (iI u))] [] _ _ _ _
      refine pm_e_sim pm_a51_36 rfl ?_
      show pm_E _ _ _ 37 [(0, .ref (pl 13)), (1, .int (iI x)), (2, .int (iI u))] [.int (iI u)] _ _ _ _
      refine pm_i_ne (t := 45) pm_a51_37 rfl ⟨by omega, by omega⟩ (fun h_3 => ?_) (fun h_3 => ?_)
      · skip
        show pm_E _ _ _ 45 [(0, .ref (pl 13)), (1, .int (iI x)), (2, .int (iI u))] [] _ _ _ _
        refine pm_e_sim pm_a51_45 rfl ?_
        show pm_E _ _ _ 46 [(0, .ref (pl 13)), (1, .int (iI x)), (2, .int (iI u))] [.int (iI u)] _ _ _ _
        refine pm_e_sim pm_a51_46 rfl ?_
        refine pm_e_top (y := iI 1) (by decide +kernel) ?_
        show pm_E _ _ _ 47 [(0, .ref (pl 13)), (1, .int (iI x)), (2, .int (iI u))] [.int (iI 1), .int (iI u)] _ _ _ _
        refine pm_c_ne (t := 63) pm_a51_47 rfl ⟨by omega, by omega⟩ ⟨by omega, by omega⟩ (fun h_4 => ?_) (fun h_4 => ?_)
        · skip
          show pm_E _ _ _ 63 [(0, .ref (pl 13)), (1, .int (iI x)), (2, .int (iI u))] [] _ _ _ _
          refine pm_e_sim pm_a51_63 rfl ?_
          refine pm_e_top (y := iI 0) (by decide +kernel) ?_
          show pm_E _ _ _ 64 [(0, .ref (pl 13)), (1, .int (iI x)), (2, .int (iI u))] [.int (iI 0)] _ _ _ _
          refine pm_e_ret pm_a51_64 rfl rfl rfl rfl rfl rfl rfl rfl ?_
          exact k0 (by omega)
        · skip
          show pm_E _ _ _ 50 [(0, .ref (pl 13)), (1, .int (iI x)), (2, .int (iI u))] [] _ _ _ _
          refine pm_e_sim pm_a51_50 rfl ?_
          show pm_E _ _ _ 51 [(0, .ref (pl 13)), (1, .int (iI x)), (2, .int (iI u))] [.int (iI x)] _ _ _ _
          refine pm_e_sim pm_a51_51 rfl ?_
          refine pm_e_top (y := iI 1) (by decide +kernel) ?_
          show pm_E _ _ _ 52 [(0, .ref (pl 13)), (1, .int (iI x)), (2, .int (iI u))] [.int (iI 1), .int (iI x)] _ _ _ _
          refine pm_c_eq (t := 59) pm_a51_52 rfl ⟨by omega, by omega⟩ ⟨by omega, by omega⟩ (fun h_5 => ?_) (fun h_5 => ?_)
          · skip
            show pm_E _ _ _ 59 [(0, .ref (pl 13)), (1, .int (iI x)), (2, .int (iI u))] [] _ _ _ _
            refine pm_e_sim pm_a51_59 rfl ?_
            refine pm_e_top (y := iI 1) (by decide +kernel) ?_
            show pm_E _ _ _ 60 [(0, .ref (pl 13)), (1, .int (iI x)), (2, .int (iI u))] [.int (iI 1)] _ _ _ _
            refine pm_e_goto pm_a51_60 rfl ?_
            show pm_E _ _ _ 64 [(0, .ref (pl 13)), (1, .int (iI x)), (2, .int (iI u))] [.int (iI 1)] _ _ _ _
            refine pm_e_ret pm_a51_64 rfl rfl rfl rfl rfl rfl rfl rfl ?_
            exact k1 (by omega)
          · skip
            show pm_E _ _ _ 55 [(0, .ref (pl 13)), (1, .int (iI x)), (2, .int (iI u))] [] _ _ _ _
            refine pm_e_sim pm_a51_55 rfl ?_
            show pm_E _ _ _ 56 [(0, .ref (pl 13)), (1, .int (iI x)), (2, .int (iI u))] [.int (iI x)] _ _ _ _
            refine pm_i_ne (t := 63) pm_a51_56 rfl ⟨by omega, by omega⟩ (fun h_6 => ?_) (fun h_6 => ?_)
            · skip
              show pm_E _ _ _ 63 [(0, .ref (pl 13)), (1, .int (iI x)), (2, .int (iI u))] [] _ _ _ _
              refine pm_e_sim pm_a51_63 rfl ?_
              refine pm_e_top (y := iI 0) (by decide +kernel) ?_
              show pm_E _ _ _ 64 [(0, .ref (pl 13)), (1, .int (iI x)), (2, .int (iI u))] [.int (iI 0)] _ _ _ _
              refine pm_e_ret pm_a51_64 rfl rfl rfl rfl rfl rfl rfl rfl ?_
              exact k0 (by omega)
            · skip
              show pm_E _ _ _ 59 [(0, .ref (pl 13)), (1, .int (iI x)), (2, .int (iI u))] [] _ _ _ _
              refine pm_e_sim pm_a51_59 rfl ?_
              refine pm_e_top (y := iI 1) (by decide +kernel) ?_
              show pm_E _ _ _ 60 [(0, .ref (pl 13)), (1, .int (iI x)), (2, .int (iI u))] [.int (iI 1)] _ _ _ _
              refine pm_e_goto pm_a51_60 rfl ?_
              show pm_E _ _ _ 64 [(0, .ref (pl 13)), (1, .int (iI x)), (2, .int (iI u))] [.int (iI 1)] _ _ _ _
              refine pm_e_ret pm_a51_64 rfl rfl rfl rfl rfl rfl rfl rfl ?_
              exact k1 (by omega)
      · skip
        show pm_E _ _ _ 40 [(0, .ref (pl 13)), (1, .int (iI x)), (2, .int (iI u))] [] _ _ _ _
        refine pm_e_sim pm_a51_40 rfl ?_
        show pm_E _ _ _ 41 [(0, .ref (pl 13)), (1, .int (iI x)), (2, .int (iI u))] [.int (iI x)] _ _ _ _
        refine pm_e_sim pm_a51_41 rfl ?_
        refine pm_e_top (y := iI 1) (by decide +kernel) ?_
        show pm_E _ _ _ 42 [(0, .ref (pl 13)), (1, .int (iI x)), (2, .int (iI u))] [.int (iI 1), .int (iI x)] _ _ _ _
        refine pm_c_eq (t := 59) pm_a51_42 rfl ⟨by omega, by omega⟩ ⟨by omega, by omega⟩ (fun h_7 => ?_) (fun h_7 => ?_)
        · skip
          show pm_E _ _ _ 59 [(0, .ref (pl 13)), (1, .int (iI x)), (2, .int (iI u))] [] _ _ _ _
          refine pm_e_sim pm_a51_59 rfl ?_
          refine pm_e_top (y := iI 1) (by decide +kernel) ?_
          show pm_E _ _ _ 60 [(0, .ref (pl 13)), (1, .int (iI x)), (2, .int (iI u))] [.int (iI 1)] _ _ _ _
          refine pm_e_goto pm_a51_60 rfl ?_
          show pm_E _ _ _ 64 [(0, .ref (pl 13)), (1, .int (iI x)), (2, .int (iI u))] [.int (iI 1)] _ _ _ _
          refine pm_e_ret pm_a51_64 rfl rfl rfl rfl rfl rfl rfl rfl ?_
          exact k1 (by omega)
        · skip
          show pm_E _ _ _ 45 [(0, .ref (pl 13)), (1, .int (iI x)), (2, .int (iI u))] [] _ _ _ _
          refine pm_e_sim pm_a51_45 rfl ?_
          show pm_E _ _ _ 46 [(0, .ref (pl 13)), (1, .int (iI x)), (2, .int (iI u))] [.int (iI u)] _ _ _ _
          refine pm_e_sim pm_a51_46 rfl ?_
          refine pm_e_top (y := iI 1) (by decide +kernel) ?_
          show pm_E _ _ _ 47 [(0, .ref (pl 13)), (1, .int (iI x)), (2, .int (iI u))] [.int (iI 1), .int (iI u)] _ _ _ _
          refine pm_c_ne (t := 63) pm_a51_47 rfl ⟨by omega, by omega⟩ ⟨by omega, by omega⟩ (fun h_8 => ?_) (fun h_8 => ?_)
          · skip
            show pm_E _ _ _ 63 [(0, .ref (pl 13)), (1, .int (iI x)), (2, .int (iI u))] [] _ _ _ _
            refine pm_e_sim pm_a51_63 rfl ?_
            refine pm_e_top (y := iI 0) (by decide +kernel) ?_
            show pm_E _ _ _ 64 [(0, .ref (pl 13)), (1, .int (iI x)), (2, .int (iI u))] [.int (iI 0)] _ _ _ _
            refine pm_e_ret pm_a51_64 rfl rfl rfl rfl rfl rfl rfl rfl ?_
            exact k0 (by omega)
          · skip
            show pm_E _ _ _ 50 [(0, .ref (pl 13)), (1, .int (iI x)), (2, .int (iI u))] [] _ _ _ _
            refine pm_e_sim pm_a51_50 rfl ?_
            show pm_E _ _ _ 51 [(0, .ref (pl 13)), (1, .int (iI x)), (2, .int (iI u))] [.int (iI x)] _ _ _ _
            refine pm_e_sim pm_a51_51 rfl ?_
            refine pm_e_top (y := iI 1) (by decide +kernel) ?_
            show pm_E _ _ _ 52 [(0, .ref (pl 13)), (1, .int (iI x)), (2, .int (iI u))] [.int (iI 1), .int (iI x)] _ _ _ _
            refine pm_c_eq (t := 59) pm_a51_52 rfl ⟨by omega, by omega⟩ ⟨by omega, by omega⟩ (fun h_9 => ?_) (fun h_9 => ?_)
            · skip
              show pm_E _ _ _ 59 [(0, .ref (pl 13)), (1, .int (iI x)), (2, .int (iI u))] [] _ _ _ _
              refine pm_e_sim pm_a51_59 rfl ?_
              refine pm_e_top (y := iI 1) (by decide +kernel) ?_
              show pm_E _ _ _ 60 [(0, .ref (pl 13)), (1, .int (iI x)), (2, .int (iI u))] [.int (iI 1)] _ _ _ _
              refine pm_e_goto pm_a51_60 rfl ?_
              show pm_E _ _ _ 64 [(0, .ref (pl 13)), (1, .int (iI x)), (2, .int (iI u))] [.int (iI 1)] _ _ _ _
              refine pm_e_ret pm_a51_64 rfl rfl rfl rfl rfl rfl rfl rfl ?_
              exact k1 (by omega)
            · skip
              show pm_E _ _ _ 55 [(0, .ref (pl 13)), (1, .int (iI x)), (2, .int (iI u))] [] _ _ _ _
              refine pm_e_sim pm_a51_55 rfl ?_
              show pm_E _ _ _ 56 [(0, .ref (pl 13)), (1, .int (iI x)), (2, .int (iI u))] [.int (iI x)] _ _ _ _
              refine pm_i_ne (t := 63) pm_a51_56 rfl ⟨by omega, by omega⟩ (fun h_10 => ?_) (fun h_10 => ?_)
              · skip
                show pm_E _ _ _ 63 [(0, .ref (pl 13)), (1, .int (iI x)), (2, .int (iI u))] [] _ _ _ _
                refine pm_e_sim pm_a51_63 rfl ?_
                refine pm_e_top (y := iI 0) (by decide +kernel) ?_
                show pm_E _ _ _ 64 [(0, .ref (pl 13)), (1, .int (iI x)), (2, .int (iI u))] [.int (iI 0)] _ _ _ _
                refine pm_e_ret pm_a51_64 rfl rfl rfl rfl rfl rfl rfl rfl ?_
                exact k0 (by omega)
              · skip
                show pm_E _ _ _ 59 [(0, .ref (pl 13)), (1, .int (iI x)), (2, .int (iI u))] [] _ _ _ _
                refine pm_e_sim pm_a51_59 rfl ?_
                refine pm_e_top (y := iI 1) (by decide +kernel) ?_
                show pm_E _ _ _ 60 [(0, .ref (pl 13)), (1, .int (iI x)), (2, .int (iI u))] [.int (iI 1)] _ _ _ _
                refine pm_e_goto pm_a51_60 rfl ?_
                show pm_E _ _ _ 64 [(0, .ref (pl 13)), (1, .int (iI x)), (2, .int (iI u))] [.int (iI 1)] _ _ _ _
                refine pm_e_ret pm_a51_64 rfl rfl rfl rfl rfl rfl rfl rfl ?_
                exact k1 (by omega)
    · skip
      exfalso; omega
theorem C_e_isW {d n : Nat} {kd pl : Nat → Nat} {s : Nat → Int} {a : Nat → Int → Int} {c : Nat → cdt} {M : List va_E} {Q : Option Value → List va_E → Nat → Nat → Prop} {x : Int} {st : List (Int × Int)} (hW : wf n kd pl) (hR : stR st s a) (hx : in32 x) (k : ∀ v : Int, (isw st x = true → v = 1) → (isw st x = false → v = 0) → Q (some (.int (iI v))) (ch n kd pl s a c M) 0 0) : pm_E none d pm_mm51 0 [(0, .ref (pl 13)), (1, .int (iI x))] [] (ch n kd pl s a c M) 0 0 Q := by
  cases st with
  | nil => exact C_e_isW0 hW hR.1 (k 0 (fun z => Bool.noConfusion (show false = true from z)) (fun _ => rfl))
  | cons y r =>
    obtain ⟨u, w⟩ := y
    obtain ⟨g1, g2⟩ := stR_top hR
    obtain ⟨q1, q2, q3, q4⟩ := id hR
    have e14 : s 14 = ((r.length + 1 : Nat) : Int) := q1
    have q4 : r.length + 1 ≤ 500 := q4
    have hk := q3 (u, w) List.mem_cons_self
    refine C_e_isW1 (u := u) (w := w) hW (by omega) (by omega) hk.1 hk.2 (by rw [show s 14 - 1 = (r.length : Int) by omega]; exact g1) hx (fun h => k 1 (fun _ => rfl) (fun z => ?_)) (fun h => k 0 (fun z => ?_) (fun _ => rfl))
    · exact absurd h (of_decide_eq_false z)
    · exact absurd (of_decide_eq_true z) h
set_option maxHeartbeats 4000000 in
set_option maxRecDepth 100000 in
theorem C_e_goInto {d n : Nat} {kd pl : Nat → Nat} {s : Nat → Int} {a : Nat → Int → Int} {c : Nat → cdt} {M : List va_E} {Q : Option Value → List va_E → Nat → Nat → Prop} {x : Int} (hW : wf n kd pl) (h14 : 0 ≤ s 14) (h15 : s 14 < 500) (k : Q none (ch n kd pl (updS s 14 (s 14 + 1)) (updA a 6 (updI (a 6) (s 14) x)) c M) 0 0) : pm_E none d pm_mm53 0 [(0, .ref (pl 13)), (1, .int (iI x))] [] (ch n kd pl s a c M) 0 0 Q := by
  refine pm_e_sim pm_a53_0 rfl ?_
  show pm_E _ _ _ 1 [(0, .ref (pl 13)), (1, .int (iI x))] [.ref (pl 13)] _ _ _ _
  refine pm_i_get pm_a53_1 rfl (cg_13 hW) rfl ?_
  show pm_E _ _ _ 4 [(0, .ref (pl 13)), (1, .int (iI x))] [.int (iI (s 14))] _ _ _ _
  refine pm_i_lt (t := 39) pm_a53_4 rfl ⟨by omega, by omega⟩ (fun h_1 => ?_) (fun h_1 => ?_)
  · skip
    exfalso; omega
  · skip
    show pm_E _ _ _ 7 [(0, .ref (pl 13)), (1, .int (iI x))] [] _ _ _ _
    refine pm_e_sim pm_a53_7 rfl ?_
    show pm_E _ _ _ 8 [(0, .ref (pl 13)), (1, .int (iI x))] [.ref (pl 13)] _ _ _ _
    refine pm_i_get pm_a53_8 rfl (cg_13 hW) rfl ?_
    show pm_E _ _ _ 11 [(0, .ref (pl 13)), (1, .int (iI x))] [.int (iI (s 14))] _ _ _ _
    refine pm_e_sim pm_a53_11 rfl ?_
    show pm_E _ _ _ 12 [(0, .ref (pl 13)), (1, .int (iI x))] [.ref (pl 13), .int (iI (s 14))] _ _ _ _
    refine pm_i_get pm_a53_12 rfl (cg_13 hW) rfl ?_
    show pm_E _ _ _ 15 [(0, .ref (pl 13)), (1, .int (iI x))] [.ref (pl 14), .int (iI (s 14))] _ _ _ _
    refine pm_i_aln pm_a53_15 (cg_14 hW) ?_
    show pm_E _ _ _ 16 [(0, .ref (pl 13)), (1, .int (iI x))] [.int (iI 500), .int (iI (s 14))] _ _ _ _
    refine pm_c_ge (t := 39) pm_a53_16 rfl ⟨by omega, by omega⟩ ⟨by omega, by omega⟩ (fun h_2 => ?_) (fun h_2 => ?_)
    · skip
      exfalso; omega
    · skip
      show pm_E _ _ _ 19 [(0, .ref (pl 13)), (1, .int (iI x))] [] _ _ _ _
      refine pm_e_sim pm_a53_19 rfl ?_
      show pm_E _ _ _ 20 [(0, .ref (pl 13)), (1, .int (iI x))] [.ref (pl 13)] _ _ _ _
      refine pm_i_get pm_a53_20 rfl (cg_13 hW) rfl ?_
      show pm_E _ _ _ 23 [(0, .ref (pl 13)), (1, .int (iI x))] [.ref (pl 14)] _ _ _ _
      refine pm_e_sim pm_a53_23 rfl ?_
      show pm_E _ _ _ 24 [(0, .ref (pl 13)), (1, .int (iI x))] [.ref (pl 13), .ref (pl 14)] _ _ _ _
      refine pm_i_get pm_a53_24 rfl (cg_13 hW) rfl ?_
      show pm_E _ _ _ 27 [(0, .ref (pl 13)), (1, .int (iI x))] [.int (iI (s 14)), .ref (pl 14)] _ _ _ _
      refine pm_e_sim pm_a53_27 rfl ?_
      show pm_E _ _ _ 28 [(0, .ref (pl 13)), (1, .int (iI x))] [.int (iI x), .int (iI (s 14)), .ref (pl 14)] _ _ _ _
      refine pm_i_ast pm_a53_28 (cg_14 hW) (by omega) (by omega) ⟨by omega, by omega⟩ (ca_14 hW _) ?_
      show pm_E _ _ _ 29 [(0, .ref (pl 13)), (1, .int (iI x))] [] _ _ _ _
      refine pm_e_sim pm_a53_29 rfl ?_
      show pm_E _ _ _ 30 [(0, .ref (pl 13)), (1, .int (iI x))] [.ref (pl 13)] _ _ _ _
      refine pm_e_sim pm_a53_30 rfl ?_
      show pm_E _ _ _ 31 [(0, .ref (pl 13)), (1, .int (iI x))] [.ref (pl 13), .ref (pl 13)] _ _ _ _
      refine pm_i_get pm_a53_31 rfl (cg_13 hW) rfl ?_
      show pm_E _ _ _ 34 [(0, .ref (pl 13)), (1, .int (iI x))] [.int (iI (s 14)), .ref (pl 13)] _ _ _ _
      refine pm_e_sim pm_a53_34 rfl ?_
      refine pm_e_top (y := iI 1) (by decide +kernel) ?_
      show pm_E _ _ _ 35 [(0, .ref (pl 13)), (1, .int (iI x))] [.int (iI 1), .int (iI (s 14)), .ref (pl 13)] _ _ _ _
      refine pm_e_sim pm_a53_35 rfl ?_
      refine pm_e_top (y := iI (s 14 + 1)) (iI_add _ _) ?_
      show pm_E _ _ _ 36 [(0, .ref (pl 13)), (1, .int (iI x))] [.int (iI (s 14 + 1)), .ref (pl 13)] _ _ _ _
      refine pm_i_put pm_a53_36 rfl (cg_13 hW) rfl (Nat.le_of_ble_eq_true rfl) (Or.inl rfl) (cw_14 hW (s 14 + 1)) ?_
      show pm_E _ _ _ 39 [(0, .ref (pl 13)), (1, .int (iI x))] [] _ _ _ _
      refine pm_e_ret pm_a53_39 rfl rfl rfl rfl rfl rfl rfl rfl ?_
      exact k
set_option maxHeartbeats 4000000 in
set_option maxRecDepth 100000 in
theorem C_e_leave_l {d n : Nat} {kd pl : Nat → Nat} {c : Nat → cdt} {M : List va_E} {Q : Option Value → List va_E → Nat → Nat → Prop} (hW : wf n kd pl) : ∀ (f : Nat) (st : List (Int × Int)) (i : Int) (X : List Int) (s : Nat → Int) (a : Nat → Int → Int), i = (st.length : Int) - 1 → stR st s a → teX s X → X.length + (lvX st).length ≤ 3100 → (∀ s' a', (∀ i, i ≠ 14 → i ≠ 15 → i ≠ 17 → i ≠ 18 → s' i = s i) → (∀ i, i ≠ 6 → a' i = a i) → stR (lvS st) s' a' → s' 15 = s 15 - lvD st → teX s' (X ++ lvX st) → Q none (ch n kd pl s' a' c M) 0 0) → (st.length : Int) < (f : Int) → pm_E none (d + 1) pm_mm56 15 [(0, .ref (pl 13)), (1, .int (iI i))] [] (ch n kd pl s a c M) 0 0 Q := by
  intro f
  induction f with
  | zero =>
    intro st i X s a hi hR hT hb k hf
    exfalso; omega
  | succ f ih =>
    intro st i X s a hi hR hT hb k hf
    have hl5 := hR.2.2.2
    refine pm_e_sim pm_a56_15 rfl ?_
    show pm_E _ _ _ 16 [(0, .ref (pl 13)), (1, .int (iI i))] [.int (iI i)] _ _ _ _
    refine pm_i_lt (t := 93) pm_a56_16 rfl ⟨by omega, by omega⟩ (fun h_1 => ?_) (fun h_1 => ?_)
    · skip
      show pm_E _ _ _ 93 [(0, .ref (pl 13)), (1, .int (iI i))] [] _ _ _ _
      refine pm_e_ret pm_a56_93 rfl rfl rfl rfl rfl rfl rfl rfl ?_
      have et : st = [] := by
        cases st with
        | nil => rfl
        | cons y r => exfalso; have z9 : i = ((r.length + 1 : Nat) : Int) - 1 := hi; omega
      subst et
      exact k s a (fun _ _ _ _ _ => rfl) (fun _ _ => rfl) hR (by show s 15 = s 15 - 0; omega) (by show teX s (X ++ []); rw [List.append_nil]; exact hT)
    · skip
      show pm_E _ _ _ 19 [(0, .ref (pl 13)), (1, .int (iI i))] [] _ _ _ _
      refine pm_e_sim pm_a56_19 rfl ?_
      show pm_E _ _ _ 20 [(0, .ref (pl 13)), (1, .int (iI i))] [.ref (pl 13)] _ _ _ _
      refine pm_i_get pm_a56_20 rfl (cg_13 hW) rfl ?_
      show pm_E _ _ _ 23 [(0, .ref (pl 13)), (1, .int (iI i))] [.ref (pl 14)] _ _ _ _
      refine pm_e_sim pm_a56_23 rfl ?_
      show pm_E _ _ _ 24 [(0, .ref (pl 13)), (1, .int (iI i))] [.int (iI i), .ref (pl 14)] _ _ _ _
      refine pm_i_ald pm_a56_24 (cg_14 hW) (by omega) (by omega) ⟨by omega, by omega⟩ ?_
      obtain ⟨y, r, rfl⟩ : ∃ y r, st = y :: r := by
        cases st with
        | nil => exfalso; have z9 : i = ((0 : Nat) : Int) - 1 := hi; omega
        | cons y r => exact ⟨y, r, rfl⟩
      obtain ⟨u, w⟩ := y
      obtain ⟨g1, g2⟩ := stR_top hR
      obtain ⟨q1, q2, q3, q4⟩ := id hR
      have q1 : s 14 = ((r.length + 1 : Nat) : Int) := q1
      have q4 : r.length + 1 ≤ 500 := q4
      have hi9 : i = (r.length : Int) := by have z9 : i = ((r.length + 1 : Nat) : Int) - 1 := hi; omega
      have ht : a 6 i = u + w := by rw [hi9]; exact g1
      obtain ⟨hu, hw⟩ : (u = 0 ∨ u = 1 ∨ u = 2) ∧ (w = 0 ∨ w = 4) := q3 (u, w) List.mem_cons_self
      show pm_E _ _ _ 25 [(0, .ref (pl 13)), (1, .int (iI i))] [.int (iI ((a 6) (i)))] _ _ _ _
      refine pm_e_sim pm_a56_25 rfl ?_
      refine pm_e_top (y := iI (-5)) (by decide +kernel) ?_
      show pm_E _ _ _ 27 [(0, .ref (pl 13)), (1, .int (iI i))] [.int (iI (-5)), .int (iI ((a 6) (i)))] _ _ _ _
      refine pm_e_sim pm_a56_27 rfl ?_
      refine pm_e_top (y := iI u) (by rw [ht]; exact andn5 hu hw) ?_
      show pm_E _ _ _ 28 [(0, .ref (pl 13)), (1, .int (iI i))] [.int (iI u)] _ _ _ _
      refine pm_e_sim pm_a56_28 rfl ?_
      show pm_E _ _ _ 29 [(0, .ref (pl 13)), (1, .int (iI i)), (2, .int (iI u))] [] _ _ _ _
      refine pm_e_sim pm_a56_29 rfl ?_
      show pm_E _ _ _ 30 [(0, .ref (pl 13)), (1, .int (iI i)), (2, .int (iI u))] [.int (iI u)] _ _ _ _
      refine pm_i_ne (t := 50) pm_a56_30 rfl ⟨by omega, by omega⟩ (fun h_2 => ?_) (fun h_2 => ?_)
      · skip
        show pm_E _ _ _ 50 [(0, .ref (pl 13)), (1, .int (iI i)), (2, .int (iI u))] [] _ _ _ _
        refine pm_e_sim pm_a56_50 rfl ?_
        show pm_E _ _ _ 51 [(0, .ref (pl 13)), (1, .int (iI i)), (2, .int (iI u))] [.int (iI u)] _ _ _ _
        refine pm_e_sim pm_a56_51 rfl ?_
        refine pm_e_top (y := iI 2) (by decide +kernel) ?_
        show pm_E _ _ _ 52 [(0, .ref (pl 13)), (1, .int (iI i)), (2, .int (iI u))] [.int (iI 2), .int (iI u)] _ _ _ _
        refine pm_c_ne (t := 65) pm_a56_52 rfl ⟨by omega, by omega⟩ ⟨by omega, by omega⟩ (fun h_3 => ?_) (fun h_3 => ?_)
        · skip
          show pm_E _ _ _ 65 [(0, .ref (pl 13)), (1, .int (iI i)), (2, .int (iI u))] [] _ _ _ _
          refine pm_e_sim pm_a56_65 rfl ?_
          show pm_E _ _ _ 66 [(0, .ref (pl 13)), (1, .int (iI i)), (2, .int (iI u))] [.ref (pl 13)] _ _ _ _
          refine pm_i_get pm_a56_66 rfl (cg_13 hW) rfl ?_
          show pm_E _ _ _ 69 [(0, .ref (pl 13)), (1, .int (iI i)), (2, .int (iI u))] [.ref (pl 14)] _ _ _ _
          refine pm_e_sim pm_a56_69 rfl ?_
          show pm_E _ _ _ 70 [(0, .ref (pl 13)), (1, .int (iI i)), (2, .int (iI u))] [.int (iI i), .ref (pl 14)] _ _ _ _
          refine pm_i_ald pm_a56_70 (cg_14 hW) (by omega) (by omega) ⟨by omega, by omega⟩ ?_
          show pm_E _ _ _ 71 [(0, .ref (pl 13)), (1, .int (iI i)), (2, .int (iI u))] [.int (iI ((a 6) (i)))] _ _ _ _
          refine pm_e_sim pm_a56_71 rfl ?_
          refine pm_e_top (y := iI 4) (by decide +kernel) ?_
          show pm_E _ _ _ 72 [(0, .ref (pl 13)), (1, .int (iI i)), (2, .int (iI u))] [.int (iI 4), .int (iI ((a 6) (i)))] _ _ _ _
          refine pm_e_sim pm_a56_72 rfl ?_
          refine pm_e_top (y := iI w) (by rw [ht]; exact and4 hu hw) ?_
          show pm_E _ _ _ 73 [(0, .ref (pl 13)), (1, .int (iI i)), (2, .int (iI u))] [.int (iI w)] _ _ _ _
          refine pm_i_eq (t := 82) pm_a56_73 rfl ⟨by omega, by omega⟩ (fun h_4 => ?_) (fun h_4 => ?_)
          · skip
            show pm_E _ _ _ 82 [(0, .ref (pl 13)), (1, .int (iI i)), (2, .int (iI u))] [] _ _ _ _
            refine pm_e_sim pm_a56_82 rfl ?_
            show pm_E _ _ _ 83 [(0, .ref (pl 13)), (1, .int (iI i)), (2, .int (iI u))] [.ref (pl 13)] _ _ _ _
            refine pm_e_sim pm_a56_83 rfl ?_
            show pm_E _ _ _ 84 [(0, .ref (pl 13)), (1, .int (iI i)), (2, .int (iI u))] [.int (iI i), .ref (pl 13)] _ _ _ _
            refine pm_i_put pm_a56_84 rfl (cg_13 hW) rfl (Nat.le_of_ble_eq_true rfl) (Or.inl rfl) (cw_14 hW i) ?_
            show pm_E _ _ _ 87 [(0, .ref (pl 13)), (1, .int (iI i)), (2, .int (iI u))] [] _ _ _ _
            refine pm_e_inc (y := iI (i + (-1))) pm_a56_87 rfl (iI_add _ _) (by decide +kernel) rfl ?_
            show pm_E _ _ _ 90 [(0, .ref (pl 13)), (1, .int (iI (i + (-1)))), (2, .int (iI u))] [] _ _ _ _
            refine pm_e_goto pm_a56_90 rfl ?_
            show pm_E _ _ _ 15 [(0, .ref (pl 13)), (1, .int (iI (i + (-1)))), (2, .int (iI u))] [] _ _ _ _
            show pm_E _ _ _ 15 ([(0, .ref (pl 13)), (1, .int (iI (i + (-1))))] ++ [(2, .int (iI u))]) [] _ _ _ _
            refine pm_e_more [(2, .int (iI u))] (show ([0, 1, 2] : List Nat).Nodup from by decide) ?_
            have lx9 := lvX_1 (r := r) (show u ≠ 0 by omega) (show w = 0 by omega)
            refine ih r (i + -1) X _ _ (by omega) (stR_pop hR (show i = _ from hi9)) (show teX s X from hT) (by rw [lx9] at hb; omega) (fun s2 a2 f1 f2 f3 f4 f5 => k s2 a2 (fun j n14 n15 n17 n18 => (f1 j n14 n15 n17 n18).trans ((updS_o n14).trans (by show s j = s j; rfl))) f2 (by rw [lvS_1 (by omega)]; exact f3) ?_ ?_) (by rw [List.length_cons] at hf; omega)
            · have e15 : s2 15 = s 15 - lvD r := f4
              rw [e15, lvD_1 (by omega) (by omega)] <;> omega
            · rw [lx9]
              exact f5
          · skip
            show pm_E _ _ _ 76 [(0, .ref (pl 13)), (1, .int (iI i)), (2, .int (iI u))] [] _ _ _ _
            refine pm_e_sim pm_a56_76 rfl ?_
            show pm_E _ _ _ 77 [(0, .ref (pl 13)), (1, .int (iI i)), (2, .int (iI u))] [.ref (pl 13)] _ _ _ _
            refine pm_e_sim pm_a56_77 rfl ?_
            refine pm_e_top (y := iI 41) (by decide +kernel) ?_
            show pm_E _ _ _ 79 [(0, .ref (pl 13)), (1, .int (iI i)), (2, .int (iI u))] [.int (iI 41), .ref (pl 13)] _ _ _ _
            refine pm_i_callv (k := (pl 13)) (T2 := pm_mm52) pm_a56_79 rfl rfl rfl (cg_13 hW) ⟨Nat.le_of_ble_eq_true rfl, Nat.le_of_ble_eq_true rfl, rfl, by decide +kernel⟩ ?_
            show pm_E none _ _ 0 [(0, .ref (pl 13)), (1, .int (iI 41))] [] _ _ _ _
            have lx := lvX_2 (r := r) (show u ≠ 0 by omega) (show w ≠ 0 by omega)
            have hb9 := hb
            rw [lx] at hb9
            simp only [List.length_append, List.length_cons, List.length_nil] at hb9
            refine C_e_tell (X := X) hW hT (by first | omega | (simp only [List.length_append, List.length_cons, List.length_nil]; omega)) (fun s_5 g_5 t_5 => ?_)
            show pm_E _ _ _ 82 [(0, .ref (pl 13)), (1, .int (iI i)), (2, .int (iI u))] [] _ _ _ _
            refine pm_e_sim pm_a56_82 rfl ?_
            show pm_E _ _ _ 83 [(0, .ref (pl 13)), (1, .int (iI i)), (2, .int (iI u))] [.ref (pl 13)] _ _ _ _
            refine pm_e_sim pm_a56_83 rfl ?_
            show pm_E _ _ _ 84 [(0, .ref (pl 13)), (1, .int (iI i)), (2, .int (iI u))] [.int (iI i), .ref (pl 13)] _ _ _ _
            refine pm_i_put pm_a56_84 rfl (cg_13 hW) rfl (Nat.le_of_ble_eq_true rfl) (Or.inl rfl) (cw_14 hW i) ?_
            show pm_E _ _ _ 87 [(0, .ref (pl 13)), (1, .int (iI i)), (2, .int (iI u))] [] _ _ _ _
            refine pm_e_inc (y := iI (i + (-1))) pm_a56_87 rfl (iI_add _ _) (by decide +kernel) rfl ?_
            show pm_E _ _ _ 90 [(0, .ref (pl 13)), (1, .int (iI (i + (-1)))), (2, .int (iI u))] [] _ _ _ _
            refine pm_e_goto pm_a56_90 rfl ?_
            show pm_E _ _ _ 15 [(0, .ref (pl 13)), (1, .int (iI (i + (-1)))), (2, .int (iI u))] [] _ _ _ _
            show pm_E _ _ _ 15 ([(0, .ref (pl 13)), (1, .int (iI (i + (-1))))] ++ [(2, .int (iI u))]) [] _ _ _ _
            refine pm_e_more [(2, .int (iI u))] (show ([0, 1, 2] : List Nat).Nodup from by decide) ?_
            have lx9 := lvX_2 (r := r) (show u ≠ 0 by omega) (show w ≠ 0 by omega)
            refine ih r (i + -1) (X ++ [41]) _ _ (by omega) (stR_pop hR (show i = _ from hi9)) (show teX s_5 (X ++ [41]) from t_5) (by rw [lx9] at hb; simp only [List.length_append, List.length_cons, List.length_nil] at hb ⊢; omega) (fun s2 a2 f1 f2 f3 f4 f5 => k s2 a2 (fun j n14 n15 n17 n18 => (f1 j n14 n15 n17 n18).trans ((updS_o n14).trans (by show s_5 j = s j; rw [g_5 j n17 n18]))) f2 (by rw [lvS_1 (by omega)]; exact f3) ?_ ?_) (by rw [List.length_cons] at hf; omega)
            · have e15 : s2 15 = s 15 - lvD r := by have z9 : s2 15 = s_5 15 - lvD r := f4; rw [z9, g_5 15 (by decide) (by decide)]
              rw [e15, lvD_1 (by omega) (by omega)] <;> omega
            · rw [lx9]; rw [← List.append_assoc]
              exact f5
        · skip
          show pm_E _ _ _ 55 [(0, .ref (pl 13)), (1, .int (iI i)), (2, .int (iI u))] [] _ _ _ _
          refine pm_e_sim pm_a56_55 rfl ?_
          show pm_E _ _ _ 56 [(0, .ref (pl 13)), (1, .int (iI i)), (2, .int (iI u))] [.ref (pl 13)] _ _ _ _
          refine pm_e_sim pm_a56_56 rfl ?_
          show pm_E _ _ _ 57 [(0, .ref (pl 13)), (1, .int (iI i)), (2, .int (iI u))] [.ref (pl 13), .ref (pl 13)] _ _ _ _
          refine pm_i_get pm_a56_57 rfl (cg_13 hW) rfl ?_
          show pm_E _ _ _ 60 [(0, .ref (pl 13)), (1, .int (iI i)), (2, .int (iI u))] [.int (iI (s 15)), .ref (pl 13)] _ _ _ _
          refine pm_e_sim pm_a56_60 rfl ?_
          refine pm_e_top (y := iI 1) (by decide +kernel) ?_
          show pm_E _ _ _ 61 [(0, .ref (pl 13)), (1, .int (iI i)), (2, .int (iI u))] [.int (iI 1), .int (iI (s 15)), .ref (pl 13)] _ _ _ _
          refine pm_e_sim pm_a56_61 rfl ?_
          refine pm_e_top (y := iI (s 15 - 1)) (iI_sub _ _) ?_
          show pm_E _ _ _ 62 [(0, .ref (pl 13)), (1, .int (iI i)), (2, .int (iI u))] [.int (iI (s 15 - 1)), .ref (pl 13)] _ _ _ _
          refine pm_i_put pm_a56_62 rfl (cg_13 hW) rfl (Nat.le_of_ble_eq_true rfl) (Or.inl rfl) (cw_15 hW (s 15 - 1)) ?_
          show pm_E _ _ _ 65 [(0, .ref (pl 13)), (1, .int (iI i)), (2, .int (iI u))] [] _ _ _ _
          refine pm_e_sim pm_a56_65 rfl ?_
          show pm_E _ _ _ 66 [(0, .ref (pl 13)), (1, .int (iI i)), (2, .int (iI u))] [.ref (pl 13)] _ _ _ _
          refine pm_i_get pm_a56_66 rfl (cg_13 hW) rfl ?_
          show pm_E _ _ _ 69 [(0, .ref (pl 13)), (1, .int (iI i)), (2, .int (iI u))] [.ref (pl 14)] _ _ _ _
          refine pm_e_sim pm_a56_69 rfl ?_
          show pm_E _ _ _ 70 [(0, .ref (pl 13)), (1, .int (iI i)), (2, .int (iI u))] [.int (iI i), .ref (pl 14)] _ _ _ _
          refine pm_i_ald pm_a56_70 (cg_14 hW) (by omega) (by omega) ⟨by omega, by omega⟩ ?_
          show pm_E _ _ _ 71 [(0, .ref (pl 13)), (1, .int (iI i)), (2, .int (iI u))] [.int (iI ((a 6) (i)))] _ _ _ _
          refine pm_e_sim pm_a56_71 rfl ?_
          refine pm_e_top (y := iI 4) (by decide +kernel) ?_
          show pm_E _ _ _ 72 [(0, .ref (pl 13)), (1, .int (iI i)), (2, .int (iI u))] [.int (iI 4), .int (iI ((a 6) (i)))] _ _ _ _
          refine pm_e_sim pm_a56_72 rfl ?_
          refine pm_e_top (y := iI w) (by rw [ht]; exact and4 hu hw) ?_
          show pm_E _ _ _ 73 [(0, .ref (pl 13)), (1, .int (iI i)), (2, .int (iI u))] [.int (iI w)] _ _ _ _
          refine pm_i_eq (t := 82) pm_a56_73 rfl ⟨by omega, by omega⟩ (fun h_6 => ?_) (fun h_6 => ?_)
          · skip
            show pm_E _ _ _ 82 [(0, .ref (pl 13)), (1, .int (iI i)), (2, .int (iI u))] [] _ _ _ _
            refine pm_e_sim pm_a56_82 rfl ?_
            show pm_E _ _ _ 83 [(0, .ref (pl 13)), (1, .int (iI i)), (2, .int (iI u))] [.ref (pl 13)] _ _ _ _
            refine pm_e_sim pm_a56_83 rfl ?_
            show pm_E _ _ _ 84 [(0, .ref (pl 13)), (1, .int (iI i)), (2, .int (iI u))] [.int (iI i), .ref (pl 13)] _ _ _ _
            refine pm_i_put pm_a56_84 rfl (cg_13 hW) rfl (Nat.le_of_ble_eq_true rfl) (Or.inl rfl) (cw_14 hW i) ?_
            show pm_E _ _ _ 87 [(0, .ref (pl 13)), (1, .int (iI i)), (2, .int (iI u))] [] _ _ _ _
            refine pm_e_inc (y := iI (i + (-1))) pm_a56_87 rfl (iI_add _ _) (by decide +kernel) rfl ?_
            show pm_E _ _ _ 90 [(0, .ref (pl 13)), (1, .int (iI (i + (-1)))), (2, .int (iI u))] [] _ _ _ _
            refine pm_e_goto pm_a56_90 rfl ?_
            show pm_E _ _ _ 15 [(0, .ref (pl 13)), (1, .int (iI (i + (-1)))), (2, .int (iI u))] [] _ _ _ _
            show pm_E _ _ _ 15 ([(0, .ref (pl 13)), (1, .int (iI (i + (-1))))] ++ [(2, .int (iI u))]) [] _ _ _ _
            refine pm_e_more [(2, .int (iI u))] (show ([0, 1, 2] : List Nat).Nodup from by decide) ?_
            have lx9 := lvX_1 (r := r) (show u ≠ 0 by omega) (show w = 0 by omega)
            refine ih r (i + -1) X _ _ (by omega) (stR_pop hR (show i = _ from hi9)) (show teX s X from hT) (by rw [lx9] at hb; omega) (fun s2 a2 f1 f2 f3 f4 f5 => k s2 a2 (fun j n14 n15 n17 n18 => (f1 j n14 n15 n17 n18).trans ((updS_o n14).trans (by show updS s 15 (s 15 - 1) j = s j; exact updS_o n15))) f2 (by rw [lvS_1 (by omega)]; exact f3) ?_ ?_) (by rw [List.length_cons] at hf; omega)
            · have e15 : s2 15 = s 15 - 1 - lvD r := f4
              rw [e15, lvD_2 (by omega)] <;> omega
            · rw [lx9]
              exact f5
          · skip
            show pm_E _ _ _ 76 [(0, .ref (pl 13)), (1, .int (iI i)), (2, .int (iI u))] [] _ _ _ _
            refine pm_e_sim pm_a56_76 rfl ?_
            show pm_E _ _ _ 77 [(0, .ref (pl 13)), (1, .int (iI i)), (2, .int (iI u))] [.ref (pl 13)] _ _ _ _
            refine pm_e_sim pm_a56_77 rfl ?_
            refine pm_e_top (y := iI 41) (by decide +kernel) ?_
            show pm_E _ _ _ 79 [(0, .ref (pl 13)), (1, .int (iI i)), (2, .int (iI u))] [.int (iI 41), .ref (pl 13)] _ _ _ _
            refine pm_i_callv (k := (pl 13)) (T2 := pm_mm52) pm_a56_79 rfl rfl rfl (cg_13 hW) ⟨Nat.le_of_ble_eq_true rfl, Nat.le_of_ble_eq_true rfl, rfl, by decide +kernel⟩ ?_
            show pm_E none _ _ 0 [(0, .ref (pl 13)), (1, .int (iI 41))] [] _ _ _ _
            have lx := lvX_2 (r := r) (show u ≠ 0 by omega) (show w ≠ 0 by omega)
            have hb9 := hb
            rw [lx] at hb9
            simp only [List.length_append, List.length_cons, List.length_nil] at hb9
            refine C_e_tell (X := X) hW hT (by first | omega | (simp only [List.length_append, List.length_cons, List.length_nil]; omega)) (fun s_7 g_7 t_7 => ?_)
            show pm_E _ _ _ 82 [(0, .ref (pl 13)), (1, .int (iI i)), (2, .int (iI u))] [] _ _ _ _
            refine pm_e_sim pm_a56_82 rfl ?_
            show pm_E _ _ _ 83 [(0, .ref (pl 13)), (1, .int (iI i)), (2, .int (iI u))] [.ref (pl 13)] _ _ _ _
            refine pm_e_sim pm_a56_83 rfl ?_
            show pm_E _ _ _ 84 [(0, .ref (pl 13)), (1, .int (iI i)), (2, .int (iI u))] [.int (iI i), .ref (pl 13)] _ _ _ _
            refine pm_i_put pm_a56_84 rfl (cg_13 hW) rfl (Nat.le_of_ble_eq_true rfl) (Or.inl rfl) (cw_14 hW i) ?_
            show pm_E _ _ _ 87 [(0, .ref (pl 13)), (1, .int (iI i)), (2, .int (iI u))] [] _ _ _ _
            refine pm_e_inc (y := iI (i + (-1))) pm_a56_87 rfl (iI_add _ _) (by decide +kernel) rfl ?_
            show pm_E _ _ _ 90 [(0, .ref (pl 13)), (1, .int (iI (i + (-1)))), (2, .int (iI u))] [] _ _ _ _
            refine pm_e_goto pm_a56_90 rfl ?_
            show pm_E _ _ _ 15 [(0, .ref (pl 13)), (1, .int (iI (i + (-1)))), (2, .int (iI u))] [] _ _ _ _
            show pm_E _ _ _ 15 ([(0, .ref (pl 13)), (1, .int (iI (i + (-1))))] ++ [(2, .int (iI u))]) [] _ _ _ _
            refine pm_e_more [(2, .int (iI u))] (show ([0, 1, 2] : List Nat).Nodup from by decide) ?_
            have lx9 := lvX_2 (r := r) (show u ≠ 0 by omega) (show w ≠ 0 by omega)
            refine ih r (i + -1) (X ++ [41]) _ _ (by omega) (stR_pop hR (show i = _ from hi9)) (show teX s_7 (X ++ [41]) from t_7) (by rw [lx9] at hb; simp only [List.length_append, List.length_cons, List.length_nil] at hb ⊢; omega) (fun s2 a2 f1 f2 f3 f4 f5 => k s2 a2 (fun j n14 n15 n17 n18 => (f1 j n14 n15 n17 n18).trans ((updS_o n14).trans (by show s_7 j = s j; rw [g_7 j n17 n18]; exact updS_o n15))) f2 (by rw [lvS_1 (by omega)]; exact f3) ?_ ?_) (by rw [List.length_cons] at hf; omega)
            · have e15 : s2 15 = s 15 - 1 - lvD r := by have z9 : s2 15 = s_7 15 - lvD r := f4; rw [z9, g_7 15 (by decide) (by decide)]; rfl
              rw [e15, lvD_2 (by omega)] <;> omega
            · rw [lx9]; rw [← List.append_assoc]
              exact f5
      · skip
        show pm_E _ _ _ 33 [(0, .ref (pl 13)), (1, .int (iI i)), (2, .int (iI u))] [] _ _ _ _
        refine pm_e_sim pm_a56_33 rfl ?_
        show pm_E _ _ _ 34 [(0, .ref (pl 13)), (1, .int (iI i)), (2, .int (iI u))] [.ref (pl 13)] _ _ _ _
        refine pm_e_sim pm_a56_34 rfl ?_
        refine pm_e_top (y := iI 32) (by decide +kernel) ?_
        show pm_E _ _ _ 36 [(0, .ref (pl 13)), (1, .int (iI i)), (2, .int (iI u))] [.int (iI 32), .ref (pl 13)] _ _ _ _
        refine pm_i_callv (k := (pl 13)) (T2 := pm_mm52) pm_a56_36 rfl rfl rfl (cg_13 hW) ⟨Nat.le_of_ble_eq_true rfl, Nat.le_of_ble_eq_true rfl, rfl, by decide +kernel⟩ ?_
        show pm_E none _ _ 0 [(0, .ref (pl 13)), (1, .int (iI 32))] [] _ _ _ _
        have lx := lvX_0 (w := w) (r := r) (show u = 0 by omega)
        have hb9 := hb
        rw [lx] at hb9
        simp only [List.length_append, List.length_cons, List.length_nil] at hb9
        refine C_e_tell (X := X) hW hT (by first | omega | (simp only [List.length_append, List.length_cons, List.length_nil]; omega)) (fun s_8 g_8 t_8 => ?_)
        show pm_E _ _ _ 39 [(0, .ref (pl 13)), (1, .int (iI i)), (2, .int (iI u))] [] _ _ _ _
        refine pm_e_sim pm_a56_39 rfl ?_
        show pm_E _ _ _ 40 [(0, .ref (pl 13)), (1, .int (iI i)), (2, .int (iI u))] [.ref (pl 13)] _ _ _ _
        refine pm_i_get pm_a56_40 rfl (cg_13 hW) rfl ?_
        show pm_E _ _ _ 43 [(0, .ref (pl 13)), (1, .int (iI i)), (2, .int (iI u))] [.ref (pl 14)] _ _ _ _
        refine pm_e_sim pm_a56_43 rfl ?_
        show pm_E _ _ _ 44 [(0, .ref (pl 13)), (1, .int (iI i)), (2, .int (iI u))] [.int (iI i), .ref (pl 14)] _ _ _ _
        refine pm_e_sim pm_a56_44 rfl ?_
        show pm_E _ _ _ 45 [(0, .ref (pl 13)), (1, .int (iI i)), (2, .int (iI u))] [.int (iI i), .ref (pl 14), .int (iI i), .ref (pl 14)] _ _ _ _
        refine pm_i_ald pm_a56_45 (cg_14 hW) (by omega) (by omega) ⟨by omega, by omega⟩ ?_
        show pm_E _ _ _ 46 [(0, .ref (pl 13)), (1, .int (iI i)), (2, .int (iI u))] [.int (iI ((a 6) (i))), .int (iI i), .ref (pl 14)] _ _ _ _
        refine pm_e_sim pm_a56_46 rfl ?_
        refine pm_e_top (y := iI 1) (by decide +kernel) ?_
        show pm_E _ _ _ 47 [(0, .ref (pl 13)), (1, .int (iI i)), (2, .int (iI u))] [.int (iI 1), .int (iI ((a 6) (i))), .int (iI i), .ref (pl 14)] _ _ _ _
        refine pm_e_sim pm_a56_47 rfl ?_
        refine pm_e_top (y := iI (1 + w)) (by rw [ht]; exact or1 (by omega) hw) ?_
        show pm_E _ _ _ 48 [(0, .ref (pl 13)), (1, .int (iI i)), (2, .int (iI u))] [.int (iI (1 + w)), .int (iI i), .ref (pl 14)] _ _ _ _
        refine pm_i_ast pm_a56_48 (cg_14 hW) (by omega) (by omega) ⟨by omega, by omega⟩ (ca_14 hW _) ?_
        show pm_E _ _ _ 49 [(0, .ref (pl 13)), (1, .int (iI i)), (2, .int (iI u))] [] _ _ _ _
        refine pm_e_ret pm_a56_49 rfl rfl rfl rfl rfl rfl rfl rfl ?_
        refine k _ _ (fun j n14 n15 n17 n18 => g_8 j n17 n18) (fun j n6 => by simp only [updA]; rw [if_neg n6]) ?_ ?_ ?_
        · rw [lvS_0 (by omega)]
          exact stR_psh g2 (fun y hy => q3 y (List.mem_cons_of_mem _ hy)) (Or.inr (Or.inl rfl)) hw rfl (by omega) (by rw [g_8 14 (by decide) (by decide), q1]; omega) hi9 rfl
        · rw [g_8 15 (by decide) (by decide), lvD_0 (by omega)]; omega
        · rw [lx]; exact t_8
set_option maxHeartbeats 4000000 in
set_option maxRecDepth 100000 in
theorem C_e_leaveEnded {d n : Nat} {kd pl : Nat → Nat} {s : Nat → Int} {a : Nat → Int → Int} {c : Nat → cdt} {M : List va_E} {Q : Option Value → List va_E → Nat → Nat → Prop} {st : List (Int × Int)} {X : List Int} (hW : wf n kd pl) (hR : stR st s a) (hT : teX s X) (hb : X.length + (lvX st).length ≤ 3100) (k : ∀ s' a', (∀ i, i ≠ 14 → i ≠ 15 → i ≠ 17 → i ≠ 18 → s' i = s i) → (∀ i, i ≠ 6 → a' i = a i) → stR (lvS st) s' a' → s' 15 = s 15 - lvD st → teX s' (X ++ lvX st) → Q none (ch n kd pl s' a' c M) 0 0) : pm_E none (d + 1) pm_mm56 0 [(0, .ref (pl 13))] [] (ch n kd pl s a c M) 0 0 Q := by
  have h14 := hR.1
  have hl5 := hR.2.2.2
  refine pm_e_sim pm_a56_0 rfl ?_
  show pm_E _ _ _ 1 [(0, .ref (pl 13))] [.ref (pl 13)] _ _ _ _
  refine pm_i_get pm_a56_1 rfl (cg_13 hW) rfl ?_
  show pm_E _ _ _ 4 [(0, .ref (pl 13))] [.int (iI (s 14))] _ _ _ _
  refine pm_e_sim pm_a56_4 rfl ?_
  show pm_E _ _ _ 5 [(0, .ref (pl 13))] [.ref (pl 13), .int (iI (s 14))] _ _ _ _
  refine pm_i_get pm_a56_5 rfl (cg_13 hW) rfl ?_
  show pm_E _ _ _ 8 [(0, .ref (pl 13))] [.ref (pl 14), .int (iI (s 14))] _ _ _ _
  refine pm_i_aln pm_a56_8 (cg_14 hW) ?_
  show pm_E _ _ _ 9 [(0, .ref (pl 13))] [.int (iI 500), .int (iI (s 14))] _ _ _ _
  refine pm_i_min pm_a56_9 rfl (Nat.le_of_ble_eq_true rfl) ⟨by omega, by omega⟩ ⟨by omega, by omega⟩ ?_
  show pm_E _ _ _ 12 [(0, .ref (pl 13))] [.int (iI (min (s 14) 500))] _ _ _ _
  refine pm_e_sim pm_a56_12 rfl ?_
  refine pm_e_top (y := iI 1) (by decide +kernel) ?_
  show pm_E _ _ _ 13 [(0, .ref (pl 13))] [.int (iI 1), .int (iI (min (s 14) 500))] _ _ _ _
  refine pm_e_sim pm_a56_13 rfl ?_
  refine pm_e_top (y := iI (min (s 14) 500 - 1)) (iI_sub _ _) ?_
  show pm_E _ _ _ 14 [(0, .ref (pl 13))] [.int (iI (min (s 14) 500 - 1))] _ _ _ _
  refine pm_e_sim pm_a56_14 rfl ?_
  show pm_E _ _ _ 15 [(0, .ref (pl 13)), (1, .int (iI (min (s 14) 500 - 1)))] [] _ _ _ _
  exact C_e_leave_l hW 502 st _ X s a (by omega) hR hT hb k (by omega)
theorem J_cax {d : Nat} {ph : List va_E} {Q : Option Value → List va_E → Nat → Nat → Prop} {z : Int} (h0 : 0 ≤ z) (h1 : z ≤ 4) (k : Q (some (.int (iI (txL (z + 2))))) ph 0 0) : pm_E none (d + 3) pm_mm223 0 [(0, .retAddr 3), (1, .int (iI z))] [] ph 0 0 Q := by
  have h : z = 0 ∨ z = 1 ∨ z = 2 ∨ z = 3 ∨ z = 4 := by omega
  rcases h with h | h | h | h | h <;> subst h
  · exact J_ca0 k
  · exact J_ca1 k
  · exact J_ca2 k
  · exact J_ca3 k
  · exact J_ca4 k
set_option maxHeartbeats 4000000 in
set_option maxRecDepth 100000 in
theorem C_e_tellLeaf {d n : Nat} {kd pl : Nat → Nat} {s : Nat → Int} {a : Nat → Int → Int} {c : Nat → cdt} {M : List va_E} {Q : Option Value → List va_E → Nat → Nat → Prop} {x : Int} {X : List Int} (hW : wf n kd pl) (hT : teX s X) (hx : 2 ≤ x ∧ (x ≤ 6 ∨ 10 ≤ x ∧ x < 10 + s 15)) (h15 : s 15 ≤ 1000) (hl : X.length + 2 ≤ 3100) (k : ∀ s', (∀ i, i ≠ 17 → i ≠ 18 → s' i = s i) → teX s' (X ++ txN x (s 15)) → Q none (ch n kd pl s' a c M) 0 0) : pm_E none (d + 4) pm_mm55 0 [(0, .ref (pl 13)), (1, .int (iI x))] [] (ch n kd pl s a c M) 0 0 Q := by
  refine pm_e_sim pm_a55_0 rfl ?_
  show pm_E _ _ _ 1 [(0, .ref (pl 13)), (1, .int (iI x))] [.int (iI x)] _ _ _ _
  refine pm_e_sim pm_a55_1 rfl ?_
  refine pm_e_top (y := iI 10) (by decide +kernel) ?_
  show pm_E _ _ _ 3 [(0, .ref (pl 13)), (1, .int (iI x))] [.int (iI 10), .int (iI x)] _ _ _ _
  refine pm_c_lt (t := 24) pm_a55_3 rfl ⟨by omega, by omega⟩ ⟨by omega, by omega⟩ (fun h_1 => ?_) (fun h_1 => ?_)
  · skip
    show pm_E _ _ _ 24 [(0, .ref (pl 13)), (1, .int (iI x))] [] _ _ _ _
    refine pm_e_sim pm_a55_24 rfl ?_
    show pm_E _ _ _ 25 [(0, .ref (pl 13)), (1, .int (iI x))] [.int (iI x)] _ _ _ _
    refine pm_e_sim pm_a55_25 rfl ?_
    refine pm_e_top (y := iI 2) (by decide +kernel) ?_
    show pm_E _ _ _ 26 [(0, .ref (pl 13)), (1, .int (iI x))] [.int (iI 2), .int (iI x)] _ _ _ _
    refine pm_c_lt (t := 47) pm_a55_26 rfl ⟨by omega, by omega⟩ ⟨by omega, by omega⟩ (fun h_2 => ?_) (fun h_2 => ?_)
    · skip
      show pm_E _ _ _ 47 [(0, .ref (pl 13)), (1, .int (iI x))] [] _ _ _ _
      refine pm_e_ret pm_a55_47 rfl rfl rfl rfl rfl rfl rfl rfl ?_
      exfalso; omega
    · skip
      show pm_E _ _ _ 29 [(0, .ref (pl 13)), (1, .int (iI x))] [] _ _ _ _
      refine pm_e_sim pm_a55_29 rfl ?_
      show pm_E _ _ _ 30 [(0, .ref (pl 13)), (1, .int (iI x))] [.int (iI x)] _ _ _ _
      refine pm_e_sim pm_a55_30 rfl ?_
      refine pm_e_top (y := iI 6) (by decide +kernel) ?_
      show pm_E _ _ _ 32 [(0, .ref (pl 13)), (1, .int (iI x))] [.int (iI 6), .int (iI x)] _ _ _ _
      refine pm_c_gt (t := 47) pm_a55_32 rfl ⟨by omega, by omega⟩ ⟨by omega, by omega⟩ (fun h_3 => ?_) (fun h_3 => ?_)
      · skip
        show pm_E _ _ _ 47 [(0, .ref (pl 13)), (1, .int (iI x))] [] _ _ _ _
        refine pm_e_ret pm_a55_47 rfl rfl rfl rfl rfl rfl rfl rfl ?_
        exfalso; omega
      · skip
        show pm_E _ _ _ 35 [(0, .ref (pl 13)), (1, .int (iI x))] [] _ _ _ _
        refine pm_e_sim pm_a55_35 rfl ?_
        show pm_E _ _ _ 36 [(0, .ref (pl 13)), (1, .int (iI x))] [.ref (pl 13)] _ _ _ _
        refine pm_e_rd pm_a55_36 rfl rfl rfl ?_
        show pm_E _ _ _ 38 [(0, .ref (pl 13)), (1, .int (iI x))] [.retAddr 3, .ref (pl 13)] _ _ _ _
        refine pm_e_sim pm_a55_38 rfl ?_
        show pm_E _ _ _ 39 [(0, .ref (pl 13)), (1, .int (iI x))] [.int (iI x), .retAddr 3, .ref (pl 13)] _ _ _ _
        refine pm_e_sim pm_a55_39 rfl ?_
        refine pm_e_top (y := iI 2) (by decide +kernel) ?_
        show pm_E _ _ _ 40 [(0, .ref (pl 13)), (1, .int (iI x))] [.int (iI 2), .int (iI x), .retAddr 3, .ref (pl 13)] _ _ _ _
        refine pm_e_sim pm_a55_40 rfl ?_
        refine pm_e_top (y := iI (x - 2)) (iI_sub _ _) ?_
        show pm_E _ _ _ 41 [(0, .ref (pl 13)), (1, .int (iI x))] [.int (iI (x - 2)), .retAddr 3, .ref (pl 13)] _ _ _ _
        refine pm_e_call (T2 := pm_mm223) pm_a55_41 rfl rfl rfl rfl rfl rfl rfl rfl rfl ?_
        show pm_E none _ _ 0 [(0, .retAddr 3), (1, .int (iI (x - 2)))] [] _ _ _ _
        refine J_cax (by omega) (by omega) ?_
        rw [show x - 2 + 2 = x by omega]
        show pm_E _ _ _ 44 [(0, .ref (pl 13)), (1, .int (iI x))] [.int (iI (txL x)), .ref (pl 13)] _ _ _ _
        refine pm_i_callv (k := (pl 13)) (T2 := pm_mm52) pm_a55_44 rfl rfl rfl (cg_13 hW) ⟨Nat.le_of_ble_eq_true rfl, Nat.le_of_ble_eq_true rfl, rfl, by decide +kernel⟩ ?_
        show pm_E none _ _ 0 [(0, .ref (pl 13)), (1, .int (iI (txL x)))] [] _ _ _ _
        refine C_e_tell (X := X) hW hT (by omega) (fun s_4 g_4 t_4 => ?_)
        show pm_E _ _ _ 47 [(0, .ref (pl 13)), (1, .int (iI x))] [] _ _ _ _
        refine pm_e_ret pm_a55_47 rfl rfl rfl rfl rfl rfl rfl rfl ?_
        have e9 : X ++ txN x (s 15) = (X ++ [txL x]) := by rw [txN_l (by omega) (by omega)]
        rw [← e9] at t_4
        exact k _ g_4 t_4
  · skip
    show pm_E _ _ _ 6 [(0, .ref (pl 13)), (1, .int (iI x))] [] _ _ _ _
    refine pm_e_sim pm_a55_6 rfl ?_
    show pm_E _ _ _ 7 [(0, .ref (pl 13)), (1, .int (iI x))] [.ref (pl 13)] _ _ _ _
    refine pm_e_sim pm_a55_7 rfl ?_
    show pm_E _ _ _ 8 [(0, .ref (pl 13)), (1, .int (iI x))] [.ref (pl 13), .ref (pl 13)] _ _ _ _
    refine pm_i_get pm_a55_8 rfl (cg_13 hW) rfl ?_
    show pm_E _ _ _ 11 [(0, .ref (pl 13)), (1, .int (iI x))] [.int (iI (s 15)), .ref (pl 13)] _ _ _ _
    refine pm_e_sim pm_a55_11 rfl ?_
    refine pm_e_top (y := iI 1) (by decide +kernel) ?_
    show pm_E _ _ _ 12 [(0, .ref (pl 13)), (1, .int (iI x))] [.int (iI 1), .int (iI (s 15)), .ref (pl 13)] _ _ _ _
    refine pm_e_sim pm_a55_12 rfl ?_
    refine pm_e_top (y := iI (s 15 - 1)) (iI_sub _ _) ?_
    show pm_E _ _ _ 13 [(0, .ref (pl 13)), (1, .int (iI x))] [.int (iI (s 15 - 1)), .ref (pl 13)] _ _ _ _
    refine pm_e_sim pm_a55_13 rfl ?_
    show pm_E _ _ _ 14 [(0, .ref (pl 13)), (1, .int (iI x))] [.int (iI x), .int (iI (s 15 - 1)), .ref (pl 13)] _ _ _ _
    refine pm_e_sim pm_a55_14 rfl ?_
    refine pm_e_top (y := iI 10) (by decide +kernel) ?_
    show pm_E _ _ _ 16 [(0, .ref (pl 13)), (1, .int (iI x))] [.int (iI 10), .int (iI x), .int (iI (s 15 - 1)), .ref (pl 13)] _ _ _ _
    refine pm_e_sim pm_a55_16 rfl ?_
    refine pm_e_top (y := iI (x - 10)) (iI_sub _ _) ?_
    show pm_E _ _ _ 17 [(0, .ref (pl 13)), (1, .int (iI x))] [.int (iI (x - 10)), .int (iI (s 15 - 1)), .ref (pl 13)] _ _ _ _
    refine pm_e_sim pm_a55_17 rfl ?_
    refine pm_e_top (y := iI (s 15 - 1 - (x - 10))) (iI_sub _ _) ?_
    show pm_E _ _ _ 18 [(0, .ref (pl 13)), (1, .int (iI x))] [.int (iI (s 15 - 1 - (x - 10))), .ref (pl 13)] _ _ _ _
    refine pm_i_callv (k := (pl 13)) (T2 := pm_mm54) pm_a55_18 rfl rfl rfl (cg_13 hW) ⟨Nat.le_of_ble_eq_true rfl, Nat.le_of_ble_eq_true rfl, rfl, by decide +kernel⟩ ?_
    show pm_E none _ _ 0 [(0, .ref (pl 13)), (1, .int (iI (s 15 - 1 - (x - 10))))] [] _ _ _ _
    have nl_5 := nmC_len (s 15 - 1 - (x - 10))
    refine C_e_tellName (X := X) hW hT (by omega) (by omega) (by omega) (fun s_5 g_5 t_5 => ?_)
    show pm_E _ _ _ 21 [(0, .ref (pl 13)), (1, .int (iI x))] [] _ _ _ _
    refine pm_e_goto pm_a55_21 rfl ?_
    show pm_E _ _ _ 47 [(0, .ref (pl 13)), (1, .int (iI x))] [] _ _ _ _
    refine pm_e_ret pm_a55_47 rfl rfl rfl rfl rfl rfl rfl rfl ?_
    have e9 : X ++ txN x (s 15) = (X ++ nmC (s 15 - 1 - (x - 10))) := by rw [txN_v (by omega)]
    rw [← e9] at t_5
    exact k _ g_5 t_5
set_option maxHeartbeats 4000000 in
set_option maxRecDepth 100000 in
theorem C_e_node0 {d n : Nat} {kd pl : Nat → Nat} {s : Nat → Int} {a : Nat → Int → Int} {c : Nat → cdt} {M : List va_E} {Q : Option Value → List va_E → Nat → Nat → Prop} {x : Int} {X : List Int} {st : List (Int × Int)} (hW : wf n kd pl) (hR : stR st s a) (hT : teX s X) (hs : st.length < 500) (hx : x = 0) (hb : X.length + 1 ≤ 3100) (k : ∀ s' a', (∀ i, i ≠ 14 → i ≠ 15 → i ≠ 17 → i ≠ 18 → s' i = s i) → (∀ i, i ≠ 6 → a' i = a i) → stR ((0, (if isw st x = true then 4 else 0)) :: st) s' a' → s' 15 = s 15 → teX s' (X ++ (if isw st x = true then [40] else [])) → Q none (ch n kd pl s' a' c M) 0 0) : pm_E none (d + 5) pm_mm50 0 [(0, .ref (pl 13)), (1, .int (iI x))] [] (ch n kd pl s a c M) 0 0 Q := by
  have h14 := hR.1
  refine pm_e_sim pm_a50_0 rfl ?_
  show pm_E _ _ _ 1 [(0, .ref (pl 13)), (1, .int (iI x))] [.ref (pl 13)] _ _ _ _
  refine pm_e_sim pm_a50_1 rfl ?_
  show pm_E _ _ _ 2 [(0, .ref (pl 13)), (1, .int (iI x))] [.int (iI x), .ref (pl 13)] _ _ _ _
  refine pm_i_callv (k := (pl 13)) (T2 := pm_mm51) pm_a50_2 rfl rfl rfl (cg_13 hW) ⟨Nat.le_of_ble_eq_true rfl, Nat.le_of_ble_eq_true rfl, rfl, by decide +kernel⟩ ?_
  show pm_E none _ _ 0 [(0, .ref (pl 13)), (1, .int (iI x))] [] _ _ _ _
  refine C_e_isW hW hR ⟨by omega, by omega⟩ (fun v v1 v0 => ?_)
  by_cases hsw : isw st x = true
  · skip
    rw [v1 hsw]
    show pm_E _ _ _ 5 [(0, .ref (pl 13)), (1, .int (iI x))] [.int (iI 1)] _ _ _ _
    refine pm_e_iff pm_a50_5 rfl (by decide +kernel) ?_
    show pm_E _ _ _ 8 [(0, .ref (pl 13)), (1, .int (iI x))] [] _ _ _ _
    refine pm_e_sim pm_a50_8 rfl ?_
    refine pm_e_top (y := iI 4) (by decide +kernel) ?_
    show pm_E _ _ _ 9 [(0, .ref (pl 13)), (1, .int (iI x))] [.int (iI 4)] _ _ _ _
    refine pm_e_goto pm_a50_9 rfl ?_
    show pm_E _ _ _ 13 [(0, .ref (pl 13)), (1, .int (iI x))] [.int (iI 4)] _ _ _ _
    refine pm_e_sim pm_a50_13 rfl ?_
    show pm_E _ _ _ 14 [(0, .ref (pl 13)), (1, .int (iI x)), (2, .int (iI 4))] [] _ _ _ _
    refine pm_e_sim pm_a50_14 rfl ?_
    show pm_E _ _ _ 15 [(0, .ref (pl 13)), (1, .int (iI x)), (2, .int (iI 4))] [.int (iI 4)] _ _ _ _
    refine pm_e_iff pm_a50_15 rfl (by decide +kernel) ?_
    show pm_E _ _ _ 18 [(0, .ref (pl 13)), (1, .int (iI x)), (2, .int (iI 4))] [] _ _ _ _
    refine pm_e_sim pm_a50_18 rfl ?_
    show pm_E _ _ _ 19 [(0, .ref (pl 13)), (1, .int (iI x)), (2, .int (iI 4))] [.ref (pl 13)] _ _ _ _
    refine pm_e_sim pm_a50_19 rfl ?_
    refine pm_e_top (y := iI 40) (by decide +kernel) ?_
    show pm_E _ _ _ 21 [(0, .ref (pl 13)), (1, .int (iI x)), (2, .int (iI 4))] [.int (iI 40), .ref (pl 13)] _ _ _ _
    refine pm_i_callv (k := (pl 13)) (T2 := pm_mm52) pm_a50_21 rfl rfl rfl (cg_13 hW) ⟨Nat.le_of_ble_eq_true rfl, Nat.le_of_ble_eq_true rfl, rfl, by decide +kernel⟩ ?_
    show pm_E none _ _ 0 [(0, .ref (pl 13)), (1, .int (iI 40))] [] _ _ _ _
    refine C_e_tell (X := X) hW hT (by first | omega | (simp only [List.length_append, List.length_cons, List.length_nil]; omega)) (fun s_1 g_1 t_1 => ?_)
    have e14_1 : s_1 14 = s 14 := g_1 14 (by decide) (by decide)
    have e15_1 : s_1 15 = s 15 := g_1 15 (by decide) (by decide)
    show pm_E _ _ _ 24 [(0, .ref (pl 13)), (1, .int (iI x)), (2, .int (iI 4))] [] _ _ _ _
    refine pm_e_sim pm_a50_24 rfl ?_
    show pm_E _ _ _ 25 [(0, .ref (pl 13)), (1, .int (iI x)), (2, .int (iI 4))] [.int (iI x)] _ _ _ _
    refine pm_i_ne (t := 38) pm_a50_25 rfl ⟨by omega, by omega⟩ (fun h_2 => ?_) (fun h_2 => ?_)
    · skip
      exfalso; omega
    · skip
      show pm_E _ _ _ 28 [(0, .ref (pl 13)), (1, .int (iI x)), (2, .int (iI 4))] [] _ _ _ _
      refine pm_e_sim pm_a50_28 rfl ?_
      show pm_E _ _ _ 29 [(0, .ref (pl 13)), (1, .int (iI x)), (2, .int (iI 4))] [.ref (pl 13)] _ _ _ _
      refine pm_e_sim pm_a50_29 rfl ?_
      refine pm_e_top (y := iI 0) (by decide +kernel) ?_
      show pm_E _ _ _ 30 [(0, .ref (pl 13)), (1, .int (iI x)), (2, .int (iI 4))] [.int (iI 0), .ref (pl 13)] _ _ _ _
      refine pm_e_sim pm_a50_30 rfl ?_
      show pm_E _ _ _ 31 [(0, .ref (pl 13)), (1, .int (iI x)), (2, .int (iI 4))] [.int (iI 4), .int (iI 0), .ref (pl 13)] _ _ _ _
      refine pm_e_sim pm_a50_31 rfl ?_
      refine pm_e_top (y := iI 4) (by decide +kernel) ?_
      show pm_E _ _ _ 32 [(0, .ref (pl 13)), (1, .int (iI x)), (2, .int (iI 4))] [.int (iI 4), .ref (pl 13)] _ _ _ _
      refine pm_i_callv (k := (pl 13)) (T2 := pm_mm53) pm_a50_32 rfl rfl rfl (cg_13 hW) ⟨Nat.le_of_ble_eq_true rfl, Nat.le_of_ble_eq_true rfl, rfl, by decide +kernel⟩ ?_
      show pm_E none _ _ 0 [(0, .ref (pl 13)), (1, .int (iI 4))] [] _ _ _ _
      refine C_e_goInto hW (show 0 ≤ s_1 14 by omega) (show s_1 14 < 500 by omega) ?_
      show pm_E _ _ _ 35 [(0, .ref (pl 13)), (1, .int (iI x)), (2, .int (iI 4))] [] _ _ _ _
      refine pm_e_goto pm_a50_35 rfl ?_
      show pm_E _ _ _ 92 [(0, .ref (pl 13)), (1, .int (iI x)), (2, .int (iI 4))] [] _ _ _ _
      refine pm_e_ret pm_a50_92 rfl rfl rfl rfl rfl rfl rfl rfl ?_
      rw [if_pos hsw, if_pos hsw] at k
      refine k _ _ (fun j n14 n15 n17 n18 => (updS_o n14).trans (g_1 j n17 n18)) (fun j n6 => by simp only [updA]; rw [if_neg n6]) ?_ (show s_1 15 = s 15 from g_1 15 (by decide) (by decide)) (show teX s_1 _ from t_1)
      exact stR_psh hR.2.1 hR.2.2.1 (Or.inl rfl) (Or.inr rfl) rfl hs (by show s_1 14 + 1 = _; rw [show s_1 14 = s 14 from g_1 14 (by decide) (by decide), h14]) (m := s_1 14) (by rw [show s_1 14 = s 14 from g_1 14 (by decide) (by decide)]; exact h14) rfl
  · skip
    rw [v0 (by simpa using hsw)]
    show pm_E _ _ _ 5 [(0, .ref (pl 13)), (1, .int (iI x))] [.int (iI 0)] _ _ _ _
    refine pm_e_ift pm_a50_5 rfl (by decide +kernel) ?_
    show pm_E _ _ _ 12 [(0, .ref (pl 13)), (1, .int (iI x))] [] _ _ _ _
    refine pm_e_sim pm_a50_12 rfl ?_
    refine pm_e_top (y := iI 0) (by decide +kernel) ?_
    show pm_E _ _ _ 13 [(0, .ref (pl 13)), (1, .int (iI x))] [.int (iI 0)] _ _ _ _
    refine pm_e_sim pm_a50_13 rfl ?_
    show pm_E _ _ _ 14 [(0, .ref (pl 13)), (1, .int (iI x)), (2, .int (iI 0))] [] _ _ _ _
    refine pm_e_sim pm_a50_14 rfl ?_
    show pm_E _ _ _ 15 [(0, .ref (pl 13)), (1, .int (iI x)), (2, .int (iI 0))] [.int (iI 0)] _ _ _ _
    refine pm_e_ift pm_a50_15 rfl (by decide +kernel) ?_
    show pm_E _ _ _ 24 [(0, .ref (pl 13)), (1, .int (iI x)), (2, .int (iI 0))] [] _ _ _ _
    refine pm_e_sim pm_a50_24 rfl ?_
    show pm_E _ _ _ 25 [(0, .ref (pl 13)), (1, .int (iI x)), (2, .int (iI 0))] [.int (iI x)] _ _ _ _
    refine pm_i_ne (t := 38) pm_a50_25 rfl ⟨by omega, by omega⟩ (fun h_3 => ?_) (fun h_3 => ?_)
    · skip
      exfalso; omega
    · skip
      show pm_E _ _ _ 28 [(0, .ref (pl 13)), (1, .int (iI x)), (2, .int (iI 0))] [] _ _ _ _
      refine pm_e_sim pm_a50_28 rfl ?_
      show pm_E _ _ _ 29 [(0, .ref (pl 13)), (1, .int (iI x)), (2, .int (iI 0))] [.ref (pl 13)] _ _ _ _
      refine pm_e_sim pm_a50_29 rfl ?_
      refine pm_e_top (y := iI 0) (by decide +kernel) ?_
      show pm_E _ _ _ 30 [(0, .ref (pl 13)), (1, .int (iI x)), (2, .int (iI 0))] [.int (iI 0), .ref (pl 13)] _ _ _ _
      refine pm_e_sim pm_a50_30 rfl ?_
      show pm_E _ _ _ 31 [(0, .ref (pl 13)), (1, .int (iI x)), (2, .int (iI 0))] [.int (iI 0), .int (iI 0), .ref (pl 13)] _ _ _ _
      refine pm_e_sim pm_a50_31 rfl ?_
      refine pm_e_top (y := iI 0) (by decide +kernel) ?_
      show pm_E _ _ _ 32 [(0, .ref (pl 13)), (1, .int (iI x)), (2, .int (iI 0))] [.int (iI 0), .ref (pl 13)] _ _ _ _
      refine pm_i_callv (k := (pl 13)) (T2 := pm_mm53) pm_a50_32 rfl rfl rfl (cg_13 hW) ⟨Nat.le_of_ble_eq_true rfl, Nat.le_of_ble_eq_true rfl, rfl, by decide +kernel⟩ ?_
      show pm_E none _ _ 0 [(0, .ref (pl 13)), (1, .int (iI 0))] [] _ _ _ _
      refine C_e_goInto hW (show 0 ≤ s 14 by omega) (show s 14 < 500 by omega) ?_
      show pm_E _ _ _ 35 [(0, .ref (pl 13)), (1, .int (iI x)), (2, .int (iI 0))] [] _ _ _ _
      refine pm_e_goto pm_a50_35 rfl ?_
      show pm_E _ _ _ 92 [(0, .ref (pl 13)), (1, .int (iI x)), (2, .int (iI 0))] [] _ _ _ _
      refine pm_e_ret pm_a50_92 rfl rfl rfl rfl rfl rfl rfl rfl ?_
      rw [if_neg hsw, if_neg hsw] at k
      refine k _ _ (fun j n14 n15 n17 n18 => (updS_o n14).trans (rfl)) (fun j n6 => by simp only [updA]; rw [if_neg n6]) ?_ (rfl) (show teX s _ from (by rw [List.append_nil]; exact hT))
      exact stR_psh hR.2.1 hR.2.2.1 (Or.inl rfl) (Or.inl rfl) rfl hs (by show s 14 + 1 = _; rw [show s 14 = s 14 from rfl, h14]) (m := s 14) (by rw [show s 14 = s 14 from rfl]; exact h14) rfl
set_option maxHeartbeats 4000000 in
set_option maxRecDepth 100000 in
theorem C_e_node1 {d n : Nat} {kd pl : Nat → Nat} {s : Nat → Int} {a : Nat → Int → Int} {c : Nat → cdt} {M : List va_E} {Q : Option Value → List va_E → Nat → Nat → Prop} {x : Int} {X : List Int} {st : List (Int × Int)} (hW : wf n kd pl) (hR : stR st s a) (hT : teX s X) (hs : st.length < 500) (hx : x = 1) (h15 : 0 ≤ s 15 ∧ s 15 ≤ 1000) (hb : X.length + 5 ≤ 3100) (k : ∀ s' a', (∀ i, i ≠ 14 → i ≠ 15 → i ≠ 17 → i ≠ 18 → s' i = s i) → (∀ i, i ≠ 6 → a' i = a i) → stR ((2, (if isw st x = true then 4 else 0)) :: st) s' a' → s' 15 = s 15 + 1 → teX s' (X ++ (if isw st x = true then [40] else []) ++ txN 1 (s 15)) → Q none (ch n kd pl s' a' c M) 0 0) : pm_E none (d + 5) pm_mm50 0 [(0, .ref (pl 13)), (1, .int (iI x))] [] (ch n kd pl s a c M) 0 0 Q := by
  have h14 := hR.1
  refine pm_e_sim pm_a50_0 rfl ?_
  show pm_E _ _ _ 1 [(0, .ref (pl 13)), (1, .int (iI x))] [.ref (pl 13)] _ _ _ _
  refine pm_e_sim pm_a50_1 rfl ?_
  show pm_E _ _ _ 2 [(0, .ref (pl 13)), (1, .int (iI x))] [.int (iI x), .ref (pl 13)] _ _ _ _
  refine pm_i_callv (k := (pl 13)) (T2 := pm_mm51) pm_a50_2 rfl rfl rfl (cg_13 hW) ⟨Nat.le_of_ble_eq_true rfl, Nat.le_of_ble_eq_true rfl, rfl, by decide +kernel⟩ ?_
  show pm_E none _ _ 0 [(0, .ref (pl 13)), (1, .int (iI x))] [] _ _ _ _
  refine C_e_isW hW hR ⟨by omega, by omega⟩ (fun v v1 v0 => ?_)
  by_cases hsw : isw st x = true
  · skip
    rw [v1 hsw]
    show pm_E _ _ _ 5 [(0, .ref (pl 13)), (1, .int (iI x))] [.int (iI 1)] _ _ _ _
    refine pm_e_iff pm_a50_5 rfl (by decide +kernel) ?_
    show pm_E _ _ _ 8 [(0, .ref (pl 13)), (1, .int (iI x))] [] _ _ _ _
    refine pm_e_sim pm_a50_8 rfl ?_
    refine pm_e_top (y := iI 4) (by decide +kernel) ?_
    show pm_E _ _ _ 9 [(0, .ref (pl 13)), (1, .int (iI x))] [.int (iI 4)] _ _ _ _
    refine pm_e_goto pm_a50_9 rfl ?_
    show pm_E _ _ _ 13 [(0, .ref (pl 13)), (1, .int (iI x))] [.int (iI 4)] _ _ _ _
    refine pm_e_sim pm_a50_13 rfl ?_
    show pm_E _ _ _ 14 [(0, .ref (pl 13)), (1, .int (iI x)), (2, .int (iI 4))] [] _ _ _ _
    refine pm_e_sim pm_a50_14 rfl ?_
    show pm_E _ _ _ 15 [(0, .ref (pl 13)), (1, .int (iI x)), (2, .int (iI 4))] [.int (iI 4)] _ _ _ _
    refine pm_e_iff pm_a50_15 rfl (by decide +kernel) ?_
    show pm_E _ _ _ 18 [(0, .ref (pl 13)), (1, .int (iI x)), (2, .int (iI 4))] [] _ _ _ _
    refine pm_e_sim pm_a50_18 rfl ?_
    show pm_E _ _ _ 19 [(0, .ref (pl 13)), (1, .int (iI x)), (2, .int (iI 4))] [.ref (pl 13)] _ _ _ _
    refine pm_e_sim pm_a50_19 rfl ?_
    refine pm_e_top (y := iI 40) (by decide +kernel) ?_
    show pm_E _ _ _ 21 [(0, .ref (pl 13)), (1, .int (iI x)), (2, .int (iI 4))] [.int (iI 40), .ref (pl 13)] _ _ _ _
    refine pm_i_callv (k := (pl 13)) (T2 := pm_mm52) pm_a50_21 rfl rfl rfl (cg_13 hW) ⟨Nat.le_of_ble_eq_true rfl, Nat.le_of_ble_eq_true rfl, rfl, by decide +kernel⟩ ?_
    show pm_E none _ _ 0 [(0, .ref (pl 13)), (1, .int (iI 40))] [] _ _ _ _
    refine C_e_tell (X := X) hW hT (by first | omega | (simp only [List.length_append, List.length_cons, List.length_nil]; omega)) (fun s_1 g_1 t_1 => ?_)
    have e14_1 : s_1 14 = s 14 := g_1 14 (by decide) (by decide)
    have e15_1 : s_1 15 = s 15 := g_1 15 (by decide) (by decide)
    show pm_E _ _ _ 24 [(0, .ref (pl 13)), (1, .int (iI x)), (2, .int (iI 4))] [] _ _ _ _
    refine pm_e_sim pm_a50_24 rfl ?_
    show pm_E _ _ _ 25 [(0, .ref (pl 13)), (1, .int (iI x)), (2, .int (iI 4))] [.int (iI x)] _ _ _ _
    refine pm_i_ne (t := 38) pm_a50_25 rfl ⟨by omega, by omega⟩ (fun h_2 => ?_) (fun h_2 => ?_)
    · skip
      show pm_E _ _ _ 38 [(0, .ref (pl 13)), (1, .int (iI x)), (2, .int (iI 4))] [] _ _ _ _
      refine pm_e_sim pm_a50_38 rfl ?_
      show pm_E _ _ _ 39 [(0, .ref (pl 13)), (1, .int (iI x)), (2, .int (iI 4))] [.int (iI x)] _ _ _ _
      refine pm_e_sim pm_a50_39 rfl ?_
      refine pm_e_top (y := iI 1) (by decide +kernel) ?_
      show pm_E _ _ _ 40 [(0, .ref (pl 13)), (1, .int (iI x)), (2, .int (iI 4))] [.int (iI 1), .int (iI x)] _ _ _ _
      refine pm_c_ne (t := 83) pm_a50_40 rfl ⟨by omega, by omega⟩ ⟨by omega, by omega⟩ (fun h_3 => ?_) (fun h_3 => ?_)
      · skip
        exfalso; omega
      · skip
        show pm_E _ _ _ 43 [(0, .ref (pl 13)), (1, .int (iI x)), (2, .int (iI 4))] [] _ _ _ _
        refine pm_e_sim pm_a50_43 rfl ?_
        show pm_E _ _ _ 44 [(0, .ref (pl 13)), (1, .int (iI x)), (2, .int (iI 4))] [.ref (pl 13)] _ _ _ _
        refine pm_e_sim pm_a50_44 rfl ?_
        refine pm_e_top (y := iI 92) (by decide +kernel) ?_
        show pm_E _ _ _ 46 [(0, .ref (pl 13)), (1, .int (iI x)), (2, .int (iI 4))] [.int (iI 92), .ref (pl 13)] _ _ _ _
        refine pm_i_callv (k := (pl 13)) (T2 := pm_mm52) pm_a50_46 rfl rfl rfl (cg_13 hW) ⟨Nat.le_of_ble_eq_true rfl, Nat.le_of_ble_eq_true rfl, rfl, by decide +kernel⟩ ?_
        show pm_E none _ _ 0 [(0, .ref (pl 13)), (1, .int (iI 92))] [] _ _ _ _
        refine C_e_tell (X := (X ++ [40])) hW t_1 (by first | omega | (simp only [List.length_append, List.length_cons, List.length_nil]; omega)) (fun s_4 g_4 t_4 => ?_)
        have e14_4 : s_4 14 = s 14 := (g_4 14 (by decide) (by decide)).trans (g_1 14 (by decide) (by decide))
        have e15_4 : s_4 15 = s 15 := (g_4 15 (by decide) (by decide)).trans (g_1 15 (by decide) (by decide))
        show pm_E _ _ _ 49 [(0, .ref (pl 13)), (1, .int (iI x)), (2, .int (iI 4))] [] _ _ _ _
        refine pm_e_sim pm_a50_49 rfl ?_
        show pm_E _ _ _ 50 [(0, .ref (pl 13)), (1, .int (iI x)), (2, .int (iI 4))] [.ref (pl 13)] _ _ _ _
        refine pm_e_sim pm_a50_50 rfl ?_
        show pm_E _ _ _ 51 [(0, .ref (pl 13)), (1, .int (iI x)), (2, .int (iI 4))] [.ref (pl 13), .ref (pl 13)] _ _ _ _
        refine pm_i_get pm_a50_51 rfl (cg_13 hW) rfl ?_
        show pm_E _ _ _ 54 [(0, .ref (pl 13)), (1, .int (iI x)), (2, .int (iI 4))] [.int (iI (s_4 15)), .ref (pl 13)] _ _ _ _
        refine pm_i_callv (k := (pl 13)) (T2 := pm_mm54) pm_a50_54 rfl rfl rfl (cg_13 hW) ⟨Nat.le_of_ble_eq_true rfl, Nat.le_of_ble_eq_true rfl, rfl, by decide +kernel⟩ ?_
        show pm_E none _ _ 0 [(0, .ref (pl 13)), (1, .int (iI (s_4 15)))] [] _ _ _ _
        have nl_5 := nmC_len (s_4 15)
        refine C_e_tellName (X := ((X ++ [40]) ++ [92])) hW t_4 (by omega) (by omega) (by first | omega | (simp only [List.length_append, List.length_cons, List.length_nil]; omega)) (fun s_5 g_5 t_5 => ?_)
        have e14_5 : s_5 14 = s 14 := (g_5 14 (by decide) (by decide)).trans ((g_4 14 (by decide) (by decide)).trans (g_1 14 (by decide) (by decide)))
        have e15_5 : s_5 15 = s 15 := (g_5 15 (by decide) (by decide)).trans ((g_4 15 (by decide) (by decide)).trans (g_1 15 (by decide) (by decide)))
        show pm_E _ _ _ 57 [(0, .ref (pl 13)), (1, .int (iI x)), (2, .int (iI 4))] [] _ _ _ _
        refine pm_e_sim pm_a50_57 rfl ?_
        show pm_E _ _ _ 58 [(0, .ref (pl 13)), (1, .int (iI x)), (2, .int (iI 4))] [.ref (pl 13)] _ _ _ _
        refine pm_e_sim pm_a50_58 rfl ?_
        refine pm_e_top (y := iI 46) (by decide +kernel) ?_
        show pm_E _ _ _ 60 [(0, .ref (pl 13)), (1, .int (iI x)), (2, .int (iI 4))] [.int (iI 46), .ref (pl 13)] _ _ _ _
        refine pm_i_callv (k := (pl 13)) (T2 := pm_mm52) pm_a50_60 rfl rfl rfl (cg_13 hW) ⟨Nat.le_of_ble_eq_true rfl, Nat.le_of_ble_eq_true rfl, rfl, by decide +kernel⟩ ?_
        show pm_E none _ _ 0 [(0, .ref (pl 13)), (1, .int (iI 46))] [] _ _ _ _
        refine C_e_tell (X := (((X ++ [40]) ++ [92]) ++ nmC (s_4 15))) hW t_5 (by first | omega | (simp only [List.length_append, List.length_cons, List.length_nil]; omega)) (fun s_6 g_6 t_6 => ?_)
        have e14_6 : s_6 14 = s 14 := (g_6 14 (by decide) (by decide)).trans ((g_5 14 (by decide) (by decide)).trans ((g_4 14 (by decide) (by decide)).trans (g_1 14 (by decide) (by decide))))
        have e15_6 : s_6 15 = s 15 := (g_6 15 (by decide) (by decide)).trans ((g_5 15 (by decide) (by decide)).trans ((g_4 15 (by decide) (by decide)).trans (g_1 15 (by decide) (by decide))))
        show pm_E _ _ _ 63 [(0, .ref (pl 13)), (1, .int (iI x)), (2, .int (iI 4))] [] _ _ _ _
        refine pm_e_sim pm_a50_63 rfl ?_
        show pm_E _ _ _ 64 [(0, .ref (pl 13)), (1, .int (iI x)), (2, .int (iI 4))] [.ref (pl 13)] _ _ _ _
        refine pm_e_sim pm_a50_64 rfl ?_
        show pm_E _ _ _ 65 [(0, .ref (pl 13)), (1, .int (iI x)), (2, .int (iI 4))] [.ref (pl 13), .ref (pl 13)] _ _ _ _
        refine pm_i_get pm_a50_65 rfl (cg_13 hW) rfl ?_
        show pm_E _ _ _ 68 [(0, .ref (pl 13)), (1, .int (iI x)), (2, .int (iI 4))] [.int (iI (s_6 15)), .ref (pl 13)] _ _ _ _
        refine pm_e_sim pm_a50_68 rfl ?_
        refine pm_e_top (y := iI 1) (by decide +kernel) ?_
        show pm_E _ _ _ 69 [(0, .ref (pl 13)), (1, .int (iI x)), (2, .int (iI 4))] [.int (iI 1), .int (iI (s_6 15)), .ref (pl 13)] _ _ _ _
        refine pm_e_sim pm_a50_69 rfl ?_
        refine pm_e_top (y := iI (s_6 15 + 1)) (iI_add _ _) ?_
        show pm_E _ _ _ 70 [(0, .ref (pl 13)), (1, .int (iI x)), (2, .int (iI 4))] [.int (iI (s_6 15 + 1)), .ref (pl 13)] _ _ _ _
        refine pm_i_put pm_a50_70 rfl (cg_13 hW) rfl (Nat.le_of_ble_eq_true rfl) (Or.inl rfl) (cw_15 hW (s_6 15 + 1)) ?_
        show pm_E _ _ _ 73 [(0, .ref (pl 13)), (1, .int (iI x)), (2, .int (iI 4))] [] _ _ _ _
        refine pm_e_sim pm_a50_73 rfl ?_
        show pm_E _ _ _ 74 [(0, .ref (pl 13)), (1, .int (iI x)), (2, .int (iI 4))] [.ref (pl 13)] _ _ _ _
        refine pm_e_sim pm_a50_74 rfl ?_
        refine pm_e_top (y := iI 2) (by decide +kernel) ?_
        show pm_E _ _ _ 75 [(0, .ref (pl 13)), (1, .int (iI x)), (2, .int (iI 4))] [.int (iI 2), .ref (pl 13)] _ _ _ _
        refine pm_e_sim pm_a50_75 rfl ?_
        show pm_E _ _ _ 76 [(0, .ref (pl 13)), (1, .int (iI x)), (2, .int (iI 4))] [.int (iI 4), .int (iI 2), .ref (pl 13)] _ _ _ _
        refine pm_e_sim pm_a50_76 rfl ?_
        refine pm_e_top (y := iI 6) (by decide +kernel) ?_
        show pm_E _ _ _ 77 [(0, .ref (pl 13)), (1, .int (iI x)), (2, .int (iI 4))] [.int (iI 6), .ref (pl 13)] _ _ _ _
        refine pm_i_callv (k := (pl 13)) (T2 := pm_mm53) pm_a50_77 rfl rfl rfl (cg_13 hW) ⟨Nat.le_of_ble_eq_true rfl, Nat.le_of_ble_eq_true rfl, rfl, by decide +kernel⟩ ?_
        show pm_E none _ _ 0 [(0, .ref (pl 13)), (1, .int (iI 6))] [] _ _ _ _
        refine C_e_goInto hW (show 0 ≤ s_6 14 by omega) (show s_6 14 < 500 by omega) ?_
        show pm_E _ _ _ 80 [(0, .ref (pl 13)), (1, .int (iI x)), (2, .int (iI 4))] [] _ _ _ _
        refine pm_e_goto pm_a50_80 rfl ?_
        show pm_E _ _ _ 92 [(0, .ref (pl 13)), (1, .int (iI x)), (2, .int (iI 4))] [] _ _ _ _
        refine pm_e_ret pm_a50_92 rfl rfl rfl rfl rfl rfl rfl rfl ?_
        rw [if_pos hsw, if_pos hsw] at k
        have e9 : X ++ [40] ++ txN 1 (s 15) = ((((X ++ [40]) ++ [92]) ++ nmC (s_4 15)) ++ [46]) := by rw [txN_1, show s_4 15 = s 15 from (g_4 15 (by decide) (by decide)).trans (g_1 15 (by decide) (by decide))]; simp only [List.append_assoc]
        rw [← e9] at t_6
        refine k _ _ (fun j n14 n15 n17 n18 => (updS_o n14).trans ((updS_o n15).trans ((g_6 j n17 n18).trans ((g_5 j n17 n18).trans ((g_4 j n17 n18).trans (g_1 j n17 n18)))))) (fun j n6 => by simp only [updA]; rw [if_neg n6]) ?_ (by show s_6 15 + 1 = _; rw [show s_6 15 = s 15 from (g_6 15 (by decide) (by decide)).trans ((g_5 15 (by decide) (by decide)).trans ((g_4 15 (by decide) (by decide)).trans (g_1 15 (by decide) (by decide))))]) (show teX s_6 _ from t_6)
        exact stR_psh hR.2.1 hR.2.2.1 (Or.inr (Or.inr rfl)) (Or.inr rfl) rfl hs (by show s_6 14 + 1 = _; rw [show s_6 14 = s 14 from (g_6 14 (by decide) (by decide)).trans ((g_5 14 (by decide) (by decide)).trans ((g_4 14 (by decide) (by decide)).trans (g_1 14 (by decide) (by decide)))), h14]) (m := s_6 14) (by rw [show s_6 14 = s 14 from (g_6 14 (by decide) (by decide)).trans ((g_5 14 (by decide) (by decide)).trans ((g_4 14 (by decide) (by decide)).trans (g_1 14 (by decide) (by decide))))]; exact h14) rfl
    · skip
      exfalso; omega
  · skip
    rw [v0 (by simpa using hsw)]
    show pm_E _ _ _ 5 [(0, .ref (pl 13)), (1, .int (iI x))] [.int (iI 0)] _ _ _ _
    refine pm_e_ift pm_a50_5 rfl (by decide +kernel) ?_
    show pm_E _ _ _ 12 [(0, .ref (pl 13)), (1, .int (iI x))] [] _ _ _ _
    refine pm_e_sim pm_a50_12 rfl ?_
    refine pm_e_top (y := iI 0) (by decide +kernel) ?_
    show pm_E _ _ _ 13 [(0, .ref (pl 13)), (1, .int (iI x))] [.int (iI 0)] _ _ _ _
    refine pm_e_sim pm_a50_13 rfl ?_
    show pm_E _ _ _ 14 [(0, .ref (pl 13)), (1, .int (iI x)), (2, .int (iI 0))] [] _ _ _ _
    refine pm_e_sim pm_a50_14 rfl ?_
    show pm_E _ _ _ 15 [(0, .ref (pl 13)), (1, .int (iI x)), (2, .int (iI 0))] [.int (iI 0)] _ _ _ _
    refine pm_e_ift pm_a50_15 rfl (by decide +kernel) ?_
    show pm_E _ _ _ 24 [(0, .ref (pl 13)), (1, .int (iI x)), (2, .int (iI 0))] [] _ _ _ _
    refine pm_e_sim pm_a50_24 rfl ?_
    show pm_E _ _ _ 25 [(0, .ref (pl 13)), (1, .int (iI x)), (2, .int (iI 0))] [.int (iI x)] _ _ _ _
    refine pm_i_ne (t := 38) pm_a50_25 rfl ⟨by omega, by omega⟩ (fun h_7 => ?_) (fun h_7 => ?_)
    · skip
      show pm_E _ _ _ 38 [(0, .ref (pl 13)), (1, .int (iI x)), (2, .int (iI 0))] [] _ _ _ _
      refine pm_e_sim pm_a50_38 rfl ?_
      show pm_E _ _ _ 39 [(0, .ref (pl 13)), (1, .int (iI x)), (2, .int (iI 0))] [.int (iI x)] _ _ _ _
      refine pm_e_sim pm_a50_39 rfl ?_
      refine pm_e_top (y := iI 1) (by decide +kernel) ?_
      show pm_E _ _ _ 40 [(0, .ref (pl 13)), (1, .int (iI x)), (2, .int (iI 0))] [.int (iI 1), .int (iI x)] _ _ _ _
      refine pm_c_ne (t := 83) pm_a50_40 rfl ⟨by omega, by omega⟩ ⟨by omega, by omega⟩ (fun h_8 => ?_) (fun h_8 => ?_)
      · skip
        exfalso; omega
      · skip
        show pm_E _ _ _ 43 [(0, .ref (pl 13)), (1, .int (iI x)), (2, .int (iI 0))] [] _ _ _ _
        refine pm_e_sim pm_a50_43 rfl ?_
        show pm_E _ _ _ 44 [(0, .ref (pl 13)), (1, .int (iI x)), (2, .int (iI 0))] [.ref (pl 13)] _ _ _ _
        refine pm_e_sim pm_a50_44 rfl ?_
        refine pm_e_top (y := iI 92) (by decide +kernel) ?_
        show pm_E _ _ _ 46 [(0, .ref (pl 13)), (1, .int (iI x)), (2, .int (iI 0))] [.int (iI 92), .ref (pl 13)] _ _ _ _
        refine pm_i_callv (k := (pl 13)) (T2 := pm_mm52) pm_a50_46 rfl rfl rfl (cg_13 hW) ⟨Nat.le_of_ble_eq_true rfl, Nat.le_of_ble_eq_true rfl, rfl, by decide +kernel⟩ ?_
        show pm_E none _ _ 0 [(0, .ref (pl 13)), (1, .int (iI 92))] [] _ _ _ _
        refine C_e_tell (X := X) hW hT (by first | omega | (simp only [List.length_append, List.length_cons, List.length_nil]; omega)) (fun s_9 g_9 t_9 => ?_)
        have e14_9 : s_9 14 = s 14 := g_9 14 (by decide) (by decide)
        have e15_9 : s_9 15 = s 15 := g_9 15 (by decide) (by decide)
        show pm_E _ _ _ 49 [(0, .ref (pl 13)), (1, .int (iI x)), (2, .int (iI 0))] [] _ _ _ _
        refine pm_e_sim pm_a50_49 rfl ?_
        show pm_E _ _ _ 50 [(0, .ref (pl 13)), (1, .int (iI x)), (2, .int (iI 0))] [.ref (pl 13)] _ _ _ _
        refine pm_e_sim pm_a50_50 rfl ?_
        show pm_E _ _ _ 51 [(0, .ref (pl 13)), (1, .int (iI x)), (2, .int (iI 0))] [.ref (pl 13), .ref (pl 13)] _ _ _ _
        refine pm_i_get pm_a50_51 rfl (cg_13 hW) rfl ?_
        show pm_E _ _ _ 54 [(0, .ref (pl 13)), (1, .int (iI x)), (2, .int (iI 0))] [.int (iI (s_9 15)), .ref (pl 13)] _ _ _ _
        refine pm_i_callv (k := (pl 13)) (T2 := pm_mm54) pm_a50_54 rfl rfl rfl (cg_13 hW) ⟨Nat.le_of_ble_eq_true rfl, Nat.le_of_ble_eq_true rfl, rfl, by decide +kernel⟩ ?_
        show pm_E none _ _ 0 [(0, .ref (pl 13)), (1, .int (iI (s_9 15)))] [] _ _ _ _
        have nl_10 := nmC_len (s_9 15)
        refine C_e_tellName (X := (X ++ [92])) hW t_9 (by omega) (by omega) (by first | omega | (simp only [List.length_append, List.length_cons, List.length_nil]; omega)) (fun s_10 g_10 t_10 => ?_)
        have e14_10 : s_10 14 = s 14 := (g_10 14 (by decide) (by decide)).trans (g_9 14 (by decide) (by decide))
        have e15_10 : s_10 15 = s 15 := (g_10 15 (by decide) (by decide)).trans (g_9 15 (by decide) (by decide))
        show pm_E _ _ _ 57 [(0, .ref (pl 13)), (1, .int (iI x)), (2, .int (iI 0))] [] _ _ _ _
        refine pm_e_sim pm_a50_57 rfl ?_
        show pm_E _ _ _ 58 [(0, .ref (pl 13)), (1, .int (iI x)), (2, .int (iI 0))] [.ref (pl 13)] _ _ _ _
        refine pm_e_sim pm_a50_58 rfl ?_
        refine pm_e_top (y := iI 46) (by decide +kernel) ?_
        show pm_E _ _ _ 60 [(0, .ref (pl 13)), (1, .int (iI x)), (2, .int (iI 0))] [.int (iI 46), .ref (pl 13)] _ _ _ _
        refine pm_i_callv (k := (pl 13)) (T2 := pm_mm52) pm_a50_60 rfl rfl rfl (cg_13 hW) ⟨Nat.le_of_ble_eq_true rfl, Nat.le_of_ble_eq_true rfl, rfl, by decide +kernel⟩ ?_
        show pm_E none _ _ 0 [(0, .ref (pl 13)), (1, .int (iI 46))] [] _ _ _ _
        refine C_e_tell (X := ((X ++ [92]) ++ nmC (s_9 15))) hW t_10 (by first | omega | (simp only [List.length_append, List.length_cons, List.length_nil]; omega)) (fun s_11 g_11 t_11 => ?_)
        have e14_11 : s_11 14 = s 14 := (g_11 14 (by decide) (by decide)).trans ((g_10 14 (by decide) (by decide)).trans (g_9 14 (by decide) (by decide)))
        have e15_11 : s_11 15 = s 15 := (g_11 15 (by decide) (by decide)).trans ((g_10 15 (by decide) (by decide)).trans (g_9 15 (by decide) (by decide)))
        show pm_E _ _ _ 63 [(0, .ref (pl 13)), (1, .int (iI x)), (2, .int (iI 0))] [] _ _ _ _
        refine pm_e_sim pm_a50_63 rfl ?_
        show pm_E _ _ _ 64 [(0, .ref (pl 13)), (1, .int (iI x)), (2, .int (iI 0))] [.ref (pl 13)] _ _ _ _
        refine pm_e_sim pm_a50_64 rfl ?_
        show pm_E _ _ _ 65 [(0, .ref (pl 13)), (1, .int (iI x)), (2, .int (iI 0))] [.ref (pl 13), .ref (pl 13)] _ _ _ _
        refine pm_i_get pm_a50_65 rfl (cg_13 hW) rfl ?_
        show pm_E _ _ _ 68 [(0, .ref (pl 13)), (1, .int (iI x)), (2, .int (iI 0))] [.int (iI (s_11 15)), .ref (pl 13)] _ _ _ _
        refine pm_e_sim pm_a50_68 rfl ?_
        refine pm_e_top (y := iI 1) (by decide +kernel) ?_
        show pm_E _ _ _ 69 [(0, .ref (pl 13)), (1, .int (iI x)), (2, .int (iI 0))] [.int (iI 1), .int (iI (s_11 15)), .ref (pl 13)] _ _ _ _
        refine pm_e_sim pm_a50_69 rfl ?_
        refine pm_e_top (y := iI (s_11 15 + 1)) (iI_add _ _) ?_
        show pm_E _ _ _ 70 [(0, .ref (pl 13)), (1, .int (iI x)), (2, .int (iI 0))] [.int (iI (s_11 15 + 1)), .ref (pl 13)] _ _ _ _
        refine pm_i_put pm_a50_70 rfl (cg_13 hW) rfl (Nat.le_of_ble_eq_true rfl) (Or.inl rfl) (cw_15 hW (s_11 15 + 1)) ?_
        show pm_E _ _ _ 73 [(0, .ref (pl 13)), (1, .int (iI x)), (2, .int (iI 0))] [] _ _ _ _
        refine pm_e_sim pm_a50_73 rfl ?_
        show pm_E _ _ _ 74 [(0, .ref (pl 13)), (1, .int (iI x)), (2, .int (iI 0))] [.ref (pl 13)] _ _ _ _
        refine pm_e_sim pm_a50_74 rfl ?_
        refine pm_e_top (y := iI 2) (by decide +kernel) ?_
        show pm_E _ _ _ 75 [(0, .ref (pl 13)), (1, .int (iI x)), (2, .int (iI 0))] [.int (iI 2), .ref (pl 13)] _ _ _ _
        refine pm_e_sim pm_a50_75 rfl ?_
        show pm_E _ _ _ 76 [(0, .ref (pl 13)), (1, .int (iI x)), (2, .int (iI 0))] [.int (iI 0), .int (iI 2), .ref (pl 13)] _ _ _ _
        refine pm_e_sim pm_a50_76 rfl ?_
        refine pm_e_top (y := iI 2) (by decide +kernel) ?_
        show pm_E _ _ _ 77 [(0, .ref (pl 13)), (1, .int (iI x)), (2, .int (iI 0))] [.int (iI 2), .ref (pl 13)] _ _ _ _
        refine pm_i_callv (k := (pl 13)) (T2 := pm_mm53) pm_a50_77 rfl rfl rfl (cg_13 hW) ⟨Nat.le_of_ble_eq_true rfl, Nat.le_of_ble_eq_true rfl, rfl, by decide +kernel⟩ ?_
        show pm_E none _ _ 0 [(0, .ref (pl 13)), (1, .int (iI 2))] [] _ _ _ _
        refine C_e_goInto hW (show 0 ≤ s_11 14 by omega) (show s_11 14 < 500 by omega) ?_
        show pm_E _ _ _ 80 [(0, .ref (pl 13)), (1, .int (iI x)), (2, .int (iI 0))] [] _ _ _ _
        refine pm_e_goto pm_a50_80 rfl ?_
        show pm_E _ _ _ 92 [(0, .ref (pl 13)), (1, .int (iI x)), (2, .int (iI 0))] [] _ _ _ _
        refine pm_e_ret pm_a50_92 rfl rfl rfl rfl rfl rfl rfl rfl ?_
        rw [if_neg hsw, if_neg hsw] at k
        have e9 : X ++ [] ++ txN 1 (s 15) = (((X ++ [92]) ++ nmC (s_9 15)) ++ [46]) := by rw [txN_1, show s_9 15 = s 15 from g_9 15 (by decide) (by decide)]; simp only [List.append_assoc, List.nil_append]
        rw [← e9] at t_11
        refine k _ _ (fun j n14 n15 n17 n18 => (updS_o n14).trans ((updS_o n15).trans ((g_11 j n17 n18).trans ((g_10 j n17 n18).trans (g_9 j n17 n18))))) (fun j n6 => by simp only [updA]; rw [if_neg n6]) ?_ (by show s_11 15 + 1 = _; rw [show s_11 15 = s 15 from (g_11 15 (by decide) (by decide)).trans ((g_10 15 (by decide) (by decide)).trans (g_9 15 (by decide) (by decide)))]) (show teX s_11 _ from t_11)
        exact stR_psh hR.2.1 hR.2.2.1 (Or.inr (Or.inr rfl)) (Or.inl rfl) rfl hs (by show s_11 14 + 1 = _; rw [show s_11 14 = s 14 from (g_11 14 (by decide) (by decide)).trans ((g_10 14 (by decide) (by decide)).trans (g_9 14 (by decide) (by decide))), h14]) (m := s_11 14) (by rw [show s_11 14 = s 14 from (g_11 14 (by decide) (by decide)).trans ((g_10 14 (by decide) (by decide)).trans (g_9 14 (by decide) (by decide)))]; exact h14) rfl
    · skip
      exfalso; omega
set_option maxHeartbeats 4000000 in
set_option maxRecDepth 100000 in
theorem C_e_node2 {d n : Nat} {kd pl : Nat → Nat} {s : Nat → Int} {a : Nat → Int → Int} {c : Nat → cdt} {M : List va_E} {Q : Option Value → List va_E → Nat → Nat → Prop} {x : Int} {X : List Int} {st : List (Int × Int)} (hW : wf n kd pl) (hR : stR st s a) (hT : teX s X) (hs : st.length < 500) (hx : 2 ≤ x ∧ (x ≤ 6 ∨ 10 ≤ x ∧ x < 10 + s 15)) (hnw : isw st x = false) (h15 : s 15 ≤ 1000) (hb : X.length + (txN x (s 15)).length + (lvX st).length ≤ 3100) (hb2 : X.length + 2 ≤ 3100) (k : ∀ s' a', (∀ i, i ≠ 14 → i ≠ 15 → i ≠ 17 → i ≠ 18 → s' i = s i) → (∀ i, i ≠ 6 → a' i = a i) → stR (lvS st) s' a' → s' 15 = s 15 - lvD st → teX s' (X ++ txN x (s 15) ++ lvX st) → Q none (ch n kd pl s' a' c M) 0 0) : pm_E none (d + 5) pm_mm50 0 [(0, .ref (pl 13)), (1, .int (iI x))] [] (ch n kd pl s a c M) 0 0 Q := by
  have h14 := hR.1
  refine pm_e_sim pm_a50_0 rfl ?_
  show pm_E _ _ _ 1 [(0, .ref (pl 13)), (1, .int (iI x))] [.ref (pl 13)] _ _ _ _
  refine pm_e_sim pm_a50_1 rfl ?_
  show pm_E _ _ _ 2 [(0, .ref (pl 13)), (1, .int (iI x))] [.int (iI x), .ref (pl 13)] _ _ _ _
  refine pm_i_callv (k := (pl 13)) (T2 := pm_mm51) pm_a50_2 rfl rfl rfl (cg_13 hW) ⟨Nat.le_of_ble_eq_true rfl, Nat.le_of_ble_eq_true rfl, rfl, by decide +kernel⟩ ?_
  show pm_E none _ _ 0 [(0, .ref (pl 13)), (1, .int (iI x))] [] _ _ _ _
  refine C_e_isW hW hR ⟨by omega, by omega⟩ (fun v v1 v0 => ?_)
  rw [v0 hnw]
  show pm_E _ _ _ 5 [(0, .ref (pl 13)), (1, .int (iI x))] [.int (iI 0)] _ _ _ _
  refine pm_e_ift pm_a50_5 rfl (by decide +kernel) ?_
  show pm_E _ _ _ 12 [(0, .ref (pl 13)), (1, .int (iI x))] [] _ _ _ _
  refine pm_e_sim pm_a50_12 rfl ?_
  refine pm_e_top (y := iI 0) (by decide +kernel) ?_
  show pm_E _ _ _ 13 [(0, .ref (pl 13)), (1, .int (iI x))] [.int (iI 0)] _ _ _ _
  refine pm_e_sim pm_a50_13 rfl ?_
  show pm_E _ _ _ 14 [(0, .ref (pl 13)), (1, .int (iI x)), (2, .int (iI 0))] [] _ _ _ _
  refine pm_e_sim pm_a50_14 rfl ?_
  show pm_E _ _ _ 15 [(0, .ref (pl 13)), (1, .int (iI x)), (2, .int (iI 0))] [.int (iI 0)] _ _ _ _
  refine pm_e_ift pm_a50_15 rfl (by decide +kernel) ?_
  show pm_E _ _ _ 24 [(0, .ref (pl 13)), (1, .int (iI x)), (2, .int (iI 0))] [] _ _ _ _
  refine pm_e_sim pm_a50_24 rfl ?_
  show pm_E _ _ _ 25 [(0, .ref (pl 13)), (1, .int (iI x)), (2, .int (iI 0))] [.int (iI x)] _ _ _ _
  refine pm_i_ne (t := 38) pm_a50_25 rfl ⟨by omega, by omega⟩ (fun h_1 => ?_) (fun h_1 => ?_)
  · skip
    show pm_E _ _ _ 38 [(0, .ref (pl 13)), (1, .int (iI x)), (2, .int (iI 0))] [] _ _ _ _
    refine pm_e_sim pm_a50_38 rfl ?_
    show pm_E _ _ _ 39 [(0, .ref (pl 13)), (1, .int (iI x)), (2, .int (iI 0))] [.int (iI x)] _ _ _ _
    refine pm_e_sim pm_a50_39 rfl ?_
    refine pm_e_top (y := iI 1) (by decide +kernel) ?_
    show pm_E _ _ _ 40 [(0, .ref (pl 13)), (1, .int (iI x)), (2, .int (iI 0))] [.int (iI 1), .int (iI x)] _ _ _ _
    refine pm_c_ne (t := 83) pm_a50_40 rfl ⟨by omega, by omega⟩ ⟨by omega, by omega⟩ (fun h_2 => ?_) (fun h_2 => ?_)
    · skip
      show pm_E _ _ _ 83 [(0, .ref (pl 13)), (1, .int (iI x)), (2, .int (iI 0))] [] _ _ _ _
      refine pm_e_sim pm_a50_83 rfl ?_
      show pm_E _ _ _ 84 [(0, .ref (pl 13)), (1, .int (iI x)), (2, .int (iI 0))] [.ref (pl 13)] _ _ _ _
      refine pm_e_sim pm_a50_84 rfl ?_
      show pm_E _ _ _ 85 [(0, .ref (pl 13)), (1, .int (iI x)), (2, .int (iI 0))] [.int (iI x), .ref (pl 13)] _ _ _ _
      refine pm_i_callv (k := (pl 13)) (T2 := pm_mm55) pm_a50_85 rfl rfl rfl (cg_13 hW) ⟨Nat.le_of_ble_eq_true rfl, Nat.le_of_ble_eq_true rfl, rfl, by decide +kernel⟩ ?_
      show pm_E none _ _ 0 [(0, .ref (pl 13)), (1, .int (iI x))] [] _ _ _ _
      refine C_e_tellLeaf (x := x) (X := X) hW hT hx h15 hb2 (fun s_3 g_3 t_3 => ?_)
      show pm_E _ _ _ 88 [(0, .ref (pl 13)), (1, .int (iI x)), (2, .int (iI 0))] [] _ _ _ _
      refine pm_e_sim pm_a50_88 rfl ?_
      show pm_E _ _ _ 89 [(0, .ref (pl 13)), (1, .int (iI x)), (2, .int (iI 0))] [.ref (pl 13)] _ _ _ _
      refine pm_i_callv (k := (pl 13)) (T2 := pm_mm56) pm_a50_89 rfl rfl rfl (cg_13 hW) ⟨Nat.le_of_ble_eq_true rfl, Nat.le_of_ble_eq_true rfl, rfl, by decide +kernel⟩ ?_
      show pm_E none _ _ 0 [(0, .ref (pl 13))] [] _ _ _ _
      refine C_e_leaveEnded (st := st) (X := (X ++ txN x (s 15))) hW ⟨(g_3 14 (by decide) (by decide)).trans hR.1, hR.2⟩ t_3 (by rw [List.length_append]; omega) (fun s_4 a_4 f1 f2 f3 f4 f5 => ?_)
      show pm_E _ _ _ 92 [(0, .ref (pl 13)), (1, .int (iI x)), (2, .int (iI 0))] [] _ _ _ _
      refine pm_e_ret pm_a50_92 rfl rfl rfl rfl rfl rfl rfl rfl ?_
      exact k _ _ (fun j n14 n15 n17 n18 => (f1 j n14 n15 n17 n18).trans (g_3 j n17 n18)) f2 f3 (by rw [f4, g_3 15 (by decide) (by decide)]) f5
    · skip
      exfalso; omega
  · skip
    exfalso; omega
set_option maxHeartbeats 4000000 in
set_option maxRecDepth 100000 in
theorem C_e_s0 {d n : Nat} {kd pl : Nat → Nat} {s : Nat → Int} {a : Nat → Int → Int} {c : Nat → cdt} {M : List va_E} {Q : Option Value → List va_E → Nat → Nat → Prop} {j : Nat} {y : cdt} {x p : Int} {X : List Int} {st : List (Int × Int)} (hW : wf n kd pl) (hj : j < 38 ∧ al n kd pl (60 + 2 * j)) (hcj : c j = y) (hok : okx (rm j) y) (hp0 : 0 ≤ p) (hp : p < y.1) (hR : stR st s a) (hT : teX s X) (hs : st.length < 500) (h18 : in32 (s 18)) (hx : y.2.2 p = 0) (hb : X.length + 1 ≤ 3100) (kx : s 18 ≠ -1 → Q (some (.int (iI (s 18)))) (ch n kd pl s a c M) 0 0) (k : ∀ s' a', (∀ i, i ≠ 14 → i ≠ 15 → i ≠ 17 → i ≠ 18 → s' i = s i) → (∀ i, i ≠ 6 → a' i = a i) → stR ((0, (if isw st (y.2.2 p) = true then 4 else 0)) :: st) s' a' → s' 15 = s 15 → teX s' (X ++ (if isw st (y.2.2 p) = true then [40] else [])) → pm_E none (d + 6) pm_mm49 27 [(0, .ref (pl 13)), (1, .ref (pl (60 + 2 * j))), (2, .int (iI x)), (3, .int (iI (p + 1)))] [] (ch n kd pl s' a' c M) 0 0 Q) : pm_E none (d + 6) pm_mm49 27 [(0, .ref (pl 13)), (1, .ref (pl (60 + 2 * j))), (2, .int (iI x)), (3, .int (iI p))] [] (ch n kd pl s a c M) 0 0 Q := by
  have rbj := rm_b j
  obtain ⟨_, _, _, o4⟩ := id hok
  obtain ⟨t1, t2, t3, t4⟩ := id hT
  obtain ⟨_, _⟩ := id t3
  obtain ⟨_, _⟩ := id h18
  have hyj : (c j).1 = y.1 := by rw [hcj]
  obtain ⟨_, _⟩ := o4 p
  refine pm_e_sim pm_a49_27 rfl ?_
  show pm_E _ _ _ 28 [(0, .ref (pl 13)), (1, .ref (pl (60 + 2 * j))), (2, .int (iI x)), (3, .int (iI p))] [.int (iI p)] _ _ _ _
  refine pm_e_sim pm_a49_28 rfl ?_
  show pm_E _ _ _ 29 [(0, .ref (pl 13)), (1, .ref (pl (60 + 2 * j))), (2, .int (iI x)), (3, .int (iI p))] [.ref (pl (60 + 2 * j)), .int (iI p)] _ _ _ _
  refine pm_i_get pm_a49_29 rfl (cg_o hj) rfl ?_
  show pm_E _ _ _ 32 [(0, .ref (pl 13)), (1, .ref (pl (60 + 2 * j))), (2, .int (iI x)), (3, .int (iI p))] [.int (iI ((c j).1)), .int (iI p)] _ _ _ _
  refine pm_c_ge (t := 58) pm_a49_32 rfl ⟨by omega, by omega⟩ ⟨by omega, by omega⟩ (fun h_1 => ?_) (fun h_1 => ?_)
  · skip
    exfalso; omega
  · skip
    show pm_E _ _ _ 35 [(0, .ref (pl 13)), (1, .ref (pl (60 + 2 * j))), (2, .int (iI x)), (3, .int (iI p))] [] _ _ _ _
    refine pm_e_sim pm_a49_35 rfl ?_
    show pm_E _ _ _ 36 [(0, .ref (pl 13)), (1, .ref (pl (60 + 2 * j))), (2, .int (iI x)), (3, .int (iI p))] [.ref (pl 13)] _ _ _ _
    refine pm_i_get pm_a49_36 rfl (cg_13 hW) rfl ?_
    show pm_E _ _ _ 39 [(0, .ref (pl 13)), (1, .ref (pl (60 + 2 * j))), (2, .int (iI x)), (3, .int (iI p))] [.int (iI (s 18))] _ _ _ _
    refine pm_e_sim pm_a49_39 rfl ?_
    refine pm_e_top (y := iI (-1)) (by decide +kernel) ?_
    show pm_E _ _ _ 40 [(0, .ref (pl 13)), (1, .ref (pl (60 + 2 * j))), (2, .int (iI x)), (3, .int (iI p))] [.int (iI (-1)), .int (iI (s 18))] _ _ _ _
    refine pm_c_ne (t := 58) pm_a49_40 rfl ⟨by omega, by omega⟩ ⟨by omega, by omega⟩ (fun h_2 => ?_) (fun h_2 => ?_)
    · skip
      show pm_E _ _ _ 58 [(0, .ref (pl 13)), (1, .ref (pl (60 + 2 * j))), (2, .int (iI x)), (3, .int (iI p))] [] _ _ _ _
      refine pm_e_sim pm_a49_58 rfl ?_
      show pm_E _ _ _ 59 [(0, .ref (pl 13)), (1, .ref (pl (60 + 2 * j))), (2, .int (iI x)), (3, .int (iI p))] [.ref (pl 13)] _ _ _ _
      refine pm_i_get pm_a49_59 rfl (cg_13 hW) rfl ?_
      show pm_E _ _ _ 62 [(0, .ref (pl 13)), (1, .ref (pl (60 + 2 * j))), (2, .int (iI x)), (3, .int (iI p))] [.int (iI (s 16))] _ _ _ _
      refine pm_e_sim pm_a49_62 rfl ?_
      show pm_E _ _ _ 63 [(0, .ref (pl 13)), (1, .ref (pl (60 + 2 * j))), (2, .int (iI x)), (3, .int (iI p))] [.ref (pl 13), .int (iI (s 16))] _ _ _ _
      refine pm_i_get pm_a49_63 rfl (cg_13 hW) rfl ?_
      show pm_E _ _ _ 66 [(0, .ref (pl 13)), (1, .ref (pl (60 + 2 * j))), (2, .int (iI x)), (3, .int (iI p))] [.int (iI (s 17)), .int (iI (s 16))] _ _ _ _
      refine pm_c_ne (t := 81) pm_a49_66 rfl ⟨by omega, by omega⟩ ⟨by omega, by omega⟩ (fun h_3 => ?_) (fun h_3 => ?_)
      · skip
        show pm_E _ _ _ 81 [(0, .ref (pl 13)), (1, .ref (pl (60 + 2 * j))), (2, .int (iI x)), (3, .int (iI p))] [] _ _ _ _
        refine pm_e_sim pm_a49_81 rfl ?_
        show pm_E _ _ _ 82 [(0, .ref (pl 13)), (1, .ref (pl (60 + 2 * j))), (2, .int (iI x)), (3, .int (iI p))] [.ref (pl 13)] _ _ _ _
        refine pm_i_get pm_a49_82 rfl (cg_13 hW) rfl ?_
        show pm_E _ _ _ 85 [(0, .ref (pl 13)), (1, .ref (pl (60 + 2 * j))), (2, .int (iI x)), (3, .int (iI p))] [.int (iI (s 18))] _ _ _ _
        refine pm_e_ret pm_a49_85 rfl rfl rfl rfl rfl rfl rfl rfl ?_
        exact kx (by omega)
      · skip
        show pm_E _ _ _ 69 [(0, .ref (pl 13)), (1, .ref (pl (60 + 2 * j))), (2, .int (iI x)), (3, .int (iI p))] [] _ _ _ _
        refine pm_e_sim pm_a49_69 rfl ?_
        show pm_E _ _ _ 70 [(0, .ref (pl 13)), (1, .ref (pl (60 + 2 * j))), (2, .int (iI x)), (3, .int (iI p))] [.ref (pl 13)] _ _ _ _
        refine pm_i_get pm_a49_70 rfl (cg_13 hW) rfl ?_
        show pm_E _ _ _ 73 [(0, .ref (pl 13)), (1, .ref (pl (60 + 2 * j))), (2, .int (iI x)), (3, .int (iI p))] [.int (iI (s 18))] _ _ _ _
        refine pm_e_sim pm_a49_73 rfl ?_
        refine pm_e_top (y := iI (-1)) (by decide +kernel) ?_
        show pm_E _ _ _ 74 [(0, .ref (pl 13)), (1, .ref (pl (60 + 2 * j))), (2, .int (iI x)), (3, .int (iI p))] [.int (iI (-1)), .int (iI (s 18))] _ _ _ _
        refine pm_c_ne (t := 81) pm_a49_74 rfl ⟨by omega, by omega⟩ ⟨by omega, by omega⟩ (fun h_4 => ?_) (fun h_4 => ?_)
        · skip
          show pm_E _ _ _ 81 [(0, .ref (pl 13)), (1, .ref (pl (60 + 2 * j))), (2, .int (iI x)), (3, .int (iI p))] [] _ _ _ _
          refine pm_e_sim pm_a49_81 rfl ?_
          show pm_E _ _ _ 82 [(0, .ref (pl 13)), (1, .ref (pl (60 + 2 * j))), (2, .int (iI x)), (3, .int (iI p))] [.ref (pl 13)] _ _ _ _
          refine pm_i_get pm_a49_82 rfl (cg_13 hW) rfl ?_
          show pm_E _ _ _ 85 [(0, .ref (pl 13)), (1, .ref (pl (60 + 2 * j))), (2, .int (iI x)), (3, .int (iI p))] [.int (iI (s 18))] _ _ _ _
          refine pm_e_ret pm_a49_85 rfl rfl rfl rfl rfl rfl rfl rfl ?_
          exact kx (by omega)
        · skip
          show pm_E _ _ _ 77 [(0, .ref (pl 13)), (1, .ref (pl (60 + 2 * j))), (2, .int (iI x)), (3, .int (iI p))] [] _ _ _ _
          refine pm_e_sim pm_a49_77 rfl ?_
          refine pm_e_top (y := iI 0) (by decide +kernel) ?_
          show pm_E _ _ _ 78 [(0, .ref (pl 13)), (1, .ref (pl (60 + 2 * j))), (2, .int (iI x)), (3, .int (iI p))] [.int (iI 0)] _ _ _ _
          refine pm_e_goto pm_a49_78 rfl ?_
          show pm_E _ _ _ 85 [(0, .ref (pl 13)), (1, .ref (pl (60 + 2 * j))), (2, .int (iI x)), (3, .int (iI p))] [.int (iI 0)] _ _ _ _
          refine pm_e_ret pm_a49_85 rfl rfl rfl rfl rfl rfl rfl rfl ?_
          exfalso; omega
    · skip
      show pm_E _ _ _ 43 [(0, .ref (pl 13)), (1, .ref (pl (60 + 2 * j))), (2, .int (iI x)), (3, .int (iI p))] [] _ _ _ _
      refine pm_e_sim pm_a49_43 rfl ?_
      show pm_E _ _ _ 44 [(0, .ref (pl 13)), (1, .ref (pl (60 + 2 * j))), (2, .int (iI x)), (3, .int (iI p))] [.ref (pl 13)] _ _ _ _
      refine pm_e_sim pm_a49_44 rfl ?_
      show pm_E _ _ _ 45 [(0, .ref (pl 13)), (1, .ref (pl (60 + 2 * j))), (2, .int (iI x)), (3, .int (iI p))] [.ref (pl (60 + 2 * j)), .ref (pl 13)] _ _ _ _
      refine pm_e_sim pm_a49_45 rfl ?_
      show pm_E _ _ _ 46 [(0, .ref (pl 13)), (1, .ref (pl (60 + 2 * j))), (2, .int (iI x)), (3, .int (iI p))] [.int (iI p), .ref (pl (60 + 2 * j)), .ref (pl 13)] _ _ _ _
      refine pm_i_callv (k := (pl (60 + 2 * j))) (T2 := pm_mm47) pm_a49_46 rfl rfl rfl (cg_o hj) ⟨Nat.le_of_ble_eq_true rfl, Nat.le_of_ble_eq_true rfl, rfl, by decide +kernel⟩ ?_
      show pm_E none _ _ 0 [(0, .ref (pl (60 + 2 * j))), (1, .int (iI p))] [] _ _ _ _
      refine C_at hW hj hcj hok.1 hok.2.1 ⟨by omega, by omega⟩ ?_
      refine pm_e_top (y := iI (y.2.2 p)) (by rw [atI_y (by omega) (by omega)]) ?_
      show pm_E _ _ _ 49 [(0, .ref (pl 13)), (1, .ref (pl (60 + 2 * j))), (2, .int (iI x)), (3, .int (iI p))] [.int (iI (y.2.2 p)), .ref (pl 13)] _ _ _ _
      refine pm_i_callv (k := (pl 13)) (T2 := pm_mm50) pm_a49_49 rfl rfl rfl (cg_13 hW) ⟨Nat.le_of_ble_eq_true rfl, Nat.le_of_ble_eq_true rfl, rfl, by decide +kernel⟩ ?_
      show pm_E none _ _ 0 [(0, .ref (pl 13)), (1, .int (iI (y.2.2 p)))] [] _ _ _ _
      refine C_e_node0 (x := y.2.2 p) (st := st) (X := X) hW hR hT hs hx hb (fun s1 a1 f1 f2 f3 f4 f5 => ?_)
      show pm_E _ _ _ 52 [(0, .ref (pl 13)), (1, .ref (pl (60 + 2 * j))), (2, .int (iI x)), (3, .int (iI p))] [] _ _ _ _
      refine pm_e_inc (y := iI (p + 1)) pm_a49_52 rfl (iI_add _ _) (by decide +kernel) rfl ?_
      show pm_E _ _ _ 55 [(0, .ref (pl 13)), (1, .ref (pl (60 + 2 * j))), (2, .int (iI x)), (3, .int (iI (p + 1)))] [] _ _ _ _
      refine pm_e_goto pm_a49_55 rfl ?_
      show pm_E _ _ _ 27 [(0, .ref (pl 13)), (1, .ref (pl (60 + 2 * j))), (2, .int (iI x)), (3, .int (iI (p + 1)))] [] _ _ _ _
      exact k s1 a1 f1 f2 f3 f4 f5
set_option maxHeartbeats 4000000 in
set_option maxRecDepth 100000 in
theorem C_e_s1 {d n : Nat} {kd pl : Nat → Nat} {s : Nat → Int} {a : Nat → Int → Int} {c : Nat → cdt} {M : List va_E} {Q : Option Value → List va_E → Nat → Nat → Prop} {j : Nat} {y : cdt} {x p : Int} {X : List Int} {st : List (Int × Int)} (hW : wf n kd pl) (hj : j < 38 ∧ al n kd pl (60 + 2 * j)) (hcj : c j = y) (hok : okx (rm j) y) (hp0 : 0 ≤ p) (hp : p < y.1) (hR : stR st s a) (hT : teX s X) (hs : st.length < 500) (h18 : in32 (s 18)) (hx : y.2.2 p = 1) (h15 : 0 ≤ s 15 ∧ s 15 ≤ 1000) (hb : X.length + 5 ≤ 3100) (kx : s 18 ≠ -1 → Q (some (.int (iI (s 18)))) (ch n kd pl s a c M) 0 0) (k : ∀ s' a', (∀ i, i ≠ 14 → i ≠ 15 → i ≠ 17 → i ≠ 18 → s' i = s i) → (∀ i, i ≠ 6 → a' i = a i) → stR ((2, (if isw st (y.2.2 p) = true then 4 else 0)) :: st) s' a' → s' 15 = s 15 + 1 → teX s' (X ++ (if isw st (y.2.2 p) = true then [40] else []) ++ txN 1 (s 15)) → pm_E none (d + 6) pm_mm49 27 [(0, .ref (pl 13)), (1, .ref (pl (60 + 2 * j))), (2, .int (iI x)), (3, .int (iI (p + 1)))] [] (ch n kd pl s' a' c M) 0 0 Q) : pm_E none (d + 6) pm_mm49 27 [(0, .ref (pl 13)), (1, .ref (pl (60 + 2 * j))), (2, .int (iI x)), (3, .int (iI p))] [] (ch n kd pl s a c M) 0 0 Q := by
  have rbj := rm_b j
  obtain ⟨_, _, _, o4⟩ := id hok
  obtain ⟨t1, t2, t3, t4⟩ := id hT
  obtain ⟨_, _⟩ := id t3
  obtain ⟨_, _⟩ := id h18
  have hyj : (c j).1 = y.1 := by rw [hcj]
  obtain ⟨_, _⟩ := o4 p
  refine pm_e_sim pm_a49_27 rfl ?_
  show pm_E _ _ _ 28 [(0, .ref (pl 13)), (1, .ref (pl (60 + 2 * j))), (2, .int (iI x)), (3, .int (iI p))] [.int (iI p)] _ _ _ _
  refine pm_e_sim pm_a49_28 rfl ?_
  show pm_E _ _ _ 29 [(0, .ref (pl 13)), (1, .ref (pl (60 + 2 * j))), (2, .int (iI x)), (3, .int (iI p))] [.ref (pl (60 + 2 * j)), .int (iI p)] _ _ _ _
  refine pm_i_get pm_a49_29 rfl (cg_o hj) rfl ?_
  show pm_E _ _ _ 32 [(0, .ref (pl 13)), (1, .ref (pl (60 + 2 * j))), (2, .int (iI x)), (3, .int (iI p))] [.int (iI ((c j).1)), .int (iI p)] _ _ _ _
  refine pm_c_ge (t := 58) pm_a49_32 rfl ⟨by omega, by omega⟩ ⟨by omega, by omega⟩ (fun h_1 => ?_) (fun h_1 => ?_)
  · skip
    exfalso; omega
  · skip
    show pm_E _ _ _ 35 [(0, .ref (pl 13)), (1, .ref (pl (60 + 2 * j))), (2, .int (iI x)), (3, .int (iI p))] [] _ _ _ _
    refine pm_e_sim pm_a49_35 rfl ?_
    show pm_E _ _ _ 36 [(0, .ref (pl 13)), (1, .ref (pl (60 + 2 * j))), (2, .int (iI x)), (3, .int (iI p))] [.ref (pl 13)] _ _ _ _
    refine pm_i_get pm_a49_36 rfl (cg_13 hW) rfl ?_
    show pm_E _ _ _ 39 [(0, .ref (pl 13)), (1, .ref (pl (60 + 2 * j))), (2, .int (iI x)), (3, .int (iI p))] [.int (iI (s 18))] _ _ _ _
    refine pm_e_sim pm_a49_39 rfl ?_
    refine pm_e_top (y := iI (-1)) (by decide +kernel) ?_
    show pm_E _ _ _ 40 [(0, .ref (pl 13)), (1, .ref (pl (60 + 2 * j))), (2, .int (iI x)), (3, .int (iI p))] [.int (iI (-1)), .int (iI (s 18))] _ _ _ _
    refine pm_c_ne (t := 58) pm_a49_40 rfl ⟨by omega, by omega⟩ ⟨by omega, by omega⟩ (fun h_2 => ?_) (fun h_2 => ?_)
    · skip
      show pm_E _ _ _ 58 [(0, .ref (pl 13)), (1, .ref (pl (60 + 2 * j))), (2, .int (iI x)), (3, .int (iI p))] [] _ _ _ _
      refine pm_e_sim pm_a49_58 rfl ?_
      show pm_E _ _ _ 59 [(0, .ref (pl 13)), (1, .ref (pl (60 + 2 * j))), (2, .int (iI x)), (3, .int (iI p))] [.ref (pl 13)] _ _ _ _
      refine pm_i_get pm_a49_59 rfl (cg_13 hW) rfl ?_
      show pm_E _ _ _ 62 [(0, .ref (pl 13)), (1, .ref (pl (60 + 2 * j))), (2, .int (iI x)), (3, .int (iI p))] [.int (iI (s 16))] _ _ _ _
      refine pm_e_sim pm_a49_62 rfl ?_
      show pm_E _ _ _ 63 [(0, .ref (pl 13)), (1, .ref (pl (60 + 2 * j))), (2, .int (iI x)), (3, .int (iI p))] [.ref (pl 13), .int (iI (s 16))] _ _ _ _
      refine pm_i_get pm_a49_63 rfl (cg_13 hW) rfl ?_
      show pm_E _ _ _ 66 [(0, .ref (pl 13)), (1, .ref (pl (60 + 2 * j))), (2, .int (iI x)), (3, .int (iI p))] [.int (iI (s 17)), .int (iI (s 16))] _ _ _ _
      refine pm_c_ne (t := 81) pm_a49_66 rfl ⟨by omega, by omega⟩ ⟨by omega, by omega⟩ (fun h_3 => ?_) (fun h_3 => ?_)
      · skip
        show pm_E _ _ _ 81 [(0, .ref (pl 13)), (1, .ref (pl (60 + 2 * j))), (2, .int (iI x)), (3, .int (iI p))] [] _ _ _ _
        refine pm_e_sim pm_a49_81 rfl ?_
        show pm_E _ _ _ 82 [(0, .ref (pl 13)), (1, .ref (pl (60 + 2 * j))), (2, .int (iI x)), (3, .int (iI p))] [.ref (pl 13)] _ _ _ _
        refine pm_i_get pm_a49_82 rfl (cg_13 hW) rfl ?_
        show pm_E _ _ _ 85 [(0, .ref (pl 13)), (1, .ref (pl (60 + 2 * j))), (2, .int (iI x)), (3, .int (iI p))] [.int (iI (s 18))] _ _ _ _
        refine pm_e_ret pm_a49_85 rfl rfl rfl rfl rfl rfl rfl rfl ?_
        exact kx (by omega)
      · skip
        show pm_E _ _ _ 69 [(0, .ref (pl 13)), (1, .ref (pl (60 + 2 * j))), (2, .int (iI x)), (3, .int (iI p))] [] _ _ _ _
        refine pm_e_sim pm_a49_69 rfl ?_
        show pm_E _ _ _ 70 [(0, .ref (pl 13)), (1, .ref (pl (60 + 2 * j))), (2, .int (iI x)), (3, .int (iI p))] [.ref (pl 13)] _ _ _ _
        refine pm_i_get pm_a49_70 rfl (cg_13 hW) rfl ?_
        show pm_E _ _ _ 73 [(0, .ref (pl 13)), (1, .ref (pl (60 + 2 * j))), (2, .int (iI x)), (3, .int (iI p))] [.int (iI (s 18))] _ _ _ _
        refine pm_e_sim pm_a49_73 rfl ?_
        refine pm_e_top (y := iI (-1)) (by decide +kernel) ?_
        show pm_E _ _ _ 74 [(0, .ref (pl 13)), (1, .ref (pl (60 + 2 * j))), (2, .int (iI x)), (3, .int (iI p))] [.int (iI (-1)), .int (iI (s 18))] _ _ _ _
        refine pm_c_ne (t := 81) pm_a49_74 rfl ⟨by omega, by omega⟩ ⟨by omega, by omega⟩ (fun h_4 => ?_) (fun h_4 => ?_)
        · skip
          show pm_E _ _ _ 81 [(0, .ref (pl 13)), (1, .ref (pl (60 + 2 * j))), (2, .int (iI x)), (3, .int (iI p))] [] _ _ _ _
          refine pm_e_sim pm_a49_81 rfl ?_
          show pm_E _ _ _ 82 [(0, .ref (pl 13)), (1, .ref (pl (60 + 2 * j))), (2, .int (iI x)), (3, .int (iI p))] [.ref (pl 13)] _ _ _ _
          refine pm_i_get pm_a49_82 rfl (cg_13 hW) rfl ?_
          show pm_E _ _ _ 85 [(0, .ref (pl 13)), (1, .ref (pl (60 + 2 * j))), (2, .int (iI x)), (3, .int (iI p))] [.int (iI (s 18))] _ _ _ _
          refine pm_e_ret pm_a49_85 rfl rfl rfl rfl rfl rfl rfl rfl ?_
          exact kx (by omega)
        · skip
          show pm_E _ _ _ 77 [(0, .ref (pl 13)), (1, .ref (pl (60 + 2 * j))), (2, .int (iI x)), (3, .int (iI p))] [] _ _ _ _
          refine pm_e_sim pm_a49_77 rfl ?_
          refine pm_e_top (y := iI 0) (by decide +kernel) ?_
          show pm_E _ _ _ 78 [(0, .ref (pl 13)), (1, .ref (pl (60 + 2 * j))), (2, .int (iI x)), (3, .int (iI p))] [.int (iI 0)] _ _ _ _
          refine pm_e_goto pm_a49_78 rfl ?_
          show pm_E _ _ _ 85 [(0, .ref (pl 13)), (1, .ref (pl (60 + 2 * j))), (2, .int (iI x)), (3, .int (iI p))] [.int (iI 0)] _ _ _ _
          refine pm_e_ret pm_a49_85 rfl rfl rfl rfl rfl rfl rfl rfl ?_
          exfalso; omega
    · skip
      show pm_E _ _ _ 43 [(0, .ref (pl 13)), (1, .ref (pl (60 + 2 * j))), (2, .int (iI x)), (3, .int (iI p))] [] _ _ _ _
      refine pm_e_sim pm_a49_43 rfl ?_
      show pm_E _ _ _ 44 [(0, .ref (pl 13)), (1, .ref (pl (60 + 2 * j))), (2, .int (iI x)), (3, .int (iI p))] [.ref (pl 13)] _ _ _ _
      refine pm_e_sim pm_a49_44 rfl ?_
      show pm_E _ _ _ 45 [(0, .ref (pl 13)), (1, .ref (pl (60 + 2 * j))), (2, .int (iI x)), (3, .int (iI p))] [.ref (pl (60 + 2 * j)), .ref (pl 13)] _ _ _ _
      refine pm_e_sim pm_a49_45 rfl ?_
      show pm_E _ _ _ 46 [(0, .ref (pl 13)), (1, .ref (pl (60 + 2 * j))), (2, .int (iI x)), (3, .int (iI p))] [.int (iI p), .ref (pl (60 + 2 * j)), .ref (pl 13)] _ _ _ _
      refine pm_i_callv (k := (pl (60 + 2 * j))) (T2 := pm_mm47) pm_a49_46 rfl rfl rfl (cg_o hj) ⟨Nat.le_of_ble_eq_true rfl, Nat.le_of_ble_eq_true rfl, rfl, by decide +kernel⟩ ?_
      show pm_E none _ _ 0 [(0, .ref (pl (60 + 2 * j))), (1, .int (iI p))] [] _ _ _ _
      refine C_at hW hj hcj hok.1 hok.2.1 ⟨by omega, by omega⟩ ?_
      refine pm_e_top (y := iI (y.2.2 p)) (by rw [atI_y (by omega) (by omega)]) ?_
      show pm_E _ _ _ 49 [(0, .ref (pl 13)), (1, .ref (pl (60 + 2 * j))), (2, .int (iI x)), (3, .int (iI p))] [.int (iI (y.2.2 p)), .ref (pl 13)] _ _ _ _
      refine pm_i_callv (k := (pl 13)) (T2 := pm_mm50) pm_a49_49 rfl rfl rfl (cg_13 hW) ⟨Nat.le_of_ble_eq_true rfl, Nat.le_of_ble_eq_true rfl, rfl, by decide +kernel⟩ ?_
      show pm_E none _ _ 0 [(0, .ref (pl 13)), (1, .int (iI (y.2.2 p)))] [] _ _ _ _
      refine C_e_node1 (x := y.2.2 p) (st := st) (X := X) hW hR hT hs hx h15 hb (fun s1 a1 f1 f2 f3 f4 f5 => ?_)
      show pm_E _ _ _ 52 [(0, .ref (pl 13)), (1, .ref (pl (60 + 2 * j))), (2, .int (iI x)), (3, .int (iI p))] [] _ _ _ _
      refine pm_e_inc (y := iI (p + 1)) pm_a49_52 rfl (iI_add _ _) (by decide +kernel) rfl ?_
      show pm_E _ _ _ 55 [(0, .ref (pl 13)), (1, .ref (pl (60 + 2 * j))), (2, .int (iI x)), (3, .int (iI (p + 1)))] [] _ _ _ _
      refine pm_e_goto pm_a49_55 rfl ?_
      show pm_E _ _ _ 27 [(0, .ref (pl 13)), (1, .ref (pl (60 + 2 * j))), (2, .int (iI x)), (3, .int (iI (p + 1)))] [] _ _ _ _
      exact k s1 a1 f1 f2 f3 f4 f5
set_option maxHeartbeats 4000000 in
set_option maxRecDepth 100000 in
theorem C_e_s2 {d n : Nat} {kd pl : Nat → Nat} {s : Nat → Int} {a : Nat → Int → Int} {c : Nat → cdt} {M : List va_E} {Q : Option Value → List va_E → Nat → Nat → Prop} {j : Nat} {y : cdt} {x p : Int} {X : List Int} {st : List (Int × Int)} (hW : wf n kd pl) (hj : j < 38 ∧ al n kd pl (60 + 2 * j)) (hcj : c j = y) (hok : okx (rm j) y) (hp0 : 0 ≤ p) (hp : p < y.1) (hR : stR st s a) (hT : teX s X) (hs : st.length < 500) (h18 : in32 (s 18)) (hx : 2 ≤ y.2.2 p ∧ (y.2.2 p ≤ 6 ∨ 10 ≤ y.2.2 p ∧ y.2.2 p < 10 + s 15)) (hnw : isw st (y.2.2 p) = false) (h15 : s 15 ≤ 1000) (hb : X.length + (txN (y.2.2 p) (s 15)).length + (lvX st).length ≤ 3100) (hb2 : X.length + 2 ≤ 3100) (kx : s 18 ≠ -1 → Q (some (.int (iI (s 18)))) (ch n kd pl s a c M) 0 0) (k : ∀ s' a', (∀ i, i ≠ 14 → i ≠ 15 → i ≠ 17 → i ≠ 18 → s' i = s i) → (∀ i, i ≠ 6 → a' i = a i) → stR (lvS st) s' a' → s' 15 = s 15 - lvD st → teX s' (X ++ txN (y.2.2 p) (s 15) ++ lvX st) → pm_E none (d + 6) pm_mm49 27 [(0, .ref (pl 13)), (1, .ref (pl (60 + 2 * j))), (2, .int (iI x)), (3, .int (iI (p + 1)))] [] (ch n kd pl s' a' c M) 0 0 Q) : pm_E none (d + 6) pm_mm49 27 [(0, .ref (pl 13)), (1, .ref (pl (60 + 2 * j))), (2, .int (iI x)), (3, .int (iI p))] [] (ch n kd pl s a c M) 0 0 Q := by
  have rbj := rm_b j
  obtain ⟨_, _, _, o4⟩ := id hok
  obtain ⟨t1, t2, t3, t4⟩ := id hT
  obtain ⟨_, _⟩ := id t3
  obtain ⟨_, _⟩ := id h18
  have hyj : (c j).1 = y.1 := by rw [hcj]
  obtain ⟨_, _⟩ := o4 p
  refine pm_e_sim pm_a49_27 rfl ?_
  show pm_E _ _ _ 28 [(0, .ref (pl 13)), (1, .ref (pl (60 + 2 * j))), (2, .int (iI x)), (3, .int (iI p))] [.int (iI p)] _ _ _ _
  refine pm_e_sim pm_a49_28 rfl ?_
  show pm_E _ _ _ 29 [(0, .ref (pl 13)), (1, .ref (pl (60 + 2 * j))), (2, .int (iI x)), (3, .int (iI p))] [.ref (pl (60 + 2 * j)), .int (iI p)] _ _ _ _
  refine pm_i_get pm_a49_29 rfl (cg_o hj) rfl ?_
  show pm_E _ _ _ 32 [(0, .ref (pl 13)), (1, .ref (pl (60 + 2 * j))), (2, .int (iI x)), (3, .int (iI p))] [.int (iI ((c j).1)), .int (iI p)] _ _ _ _
  refine pm_c_ge (t := 58) pm_a49_32 rfl ⟨by omega, by omega⟩ ⟨by omega, by omega⟩ (fun h_1 => ?_) (fun h_1 => ?_)
  · skip
    exfalso; omega
  · skip
    show pm_E _ _ _ 35 [(0, .ref (pl 13)), (1, .ref (pl (60 + 2 * j))), (2, .int (iI x)), (3, .int (iI p))] [] _ _ _ _
    refine pm_e_sim pm_a49_35 rfl ?_
    show pm_E _ _ _ 36 [(0, .ref (pl 13)), (1, .ref (pl (60 + 2 * j))), (2, .int (iI x)), (3, .int (iI p))] [.ref (pl 13)] _ _ _ _
    refine pm_i_get pm_a49_36 rfl (cg_13 hW) rfl ?_
    show pm_E _ _ _ 39 [(0, .ref (pl 13)), (1, .ref (pl (60 + 2 * j))), (2, .int (iI x)), (3, .int (iI p))] [.int (iI (s 18))] _ _ _ _
    refine pm_e_sim pm_a49_39 rfl ?_
    refine pm_e_top (y := iI (-1)) (by decide +kernel) ?_
    show pm_E _ _ _ 40 [(0, .ref (pl 13)), (1, .ref (pl (60 + 2 * j))), (2, .int (iI x)), (3, .int (iI p))] [.int (iI (-1)), .int (iI (s 18))] _ _ _ _
    refine pm_c_ne (t := 58) pm_a49_40 rfl ⟨by omega, by omega⟩ ⟨by omega, by omega⟩ (fun h_2 => ?_) (fun h_2 => ?_)
    · skip
      show pm_E _ _ _ 58 [(0, .ref (pl 13)), (1, .ref (pl (60 + 2 * j))), (2, .int (iI x)), (3, .int (iI p))] [] _ _ _ _
      refine pm_e_sim pm_a49_58 rfl ?_
      show pm_E _ _ _ 59 [(0, .ref (pl 13)), (1, .ref (pl (60 + 2 * j))), (2, .int (iI x)), (3, .int (iI p))] [.ref (pl 13)] _ _ _ _
      refine pm_i_get pm_a49_59 rfl (cg_13 hW) rfl ?_
      show pm_E _ _ _ 62 [(0, .ref (pl 13)), (1, .ref (pl (60 + 2 * j))), (2, .int (iI x)), (3, .int (iI p))] [.int (iI (s 16))] _ _ _ _
      refine pm_e_sim pm_a49_62 rfl ?_
      show pm_E _ _ _ 63 [(0, .ref (pl 13)), (1, .ref (pl (60 + 2 * j))), (2, .int (iI x)), (3, .int (iI p))] [.ref (pl 13), .int (iI (s 16))] _ _ _ _
      refine pm_i_get pm_a49_63 rfl (cg_13 hW) rfl ?_
      show pm_E _ _ _ 66 [(0, .ref (pl 13)), (1, .ref (pl (60 + 2 * j))), (2, .int (iI x)), (3, .int (iI p))] [.int (iI (s 17)), .int (iI (s 16))] _ _ _ _
      refine pm_c_ne (t := 81) pm_a49_66 rfl ⟨by omega, by omega⟩ ⟨by omega, by omega⟩ (fun h_3 => ?_) (fun h_3 => ?_)
      · skip
        show pm_E _ _ _ 81 [(0, .ref (pl 13)), (1, .ref (pl (60 + 2 * j))), (2, .int (iI x)), (3, .int (iI p))] [] _ _ _ _
        refine pm_e_sim pm_a49_81 rfl ?_
        show pm_E _ _ _ 82 [(0, .ref (pl 13)), (1, .ref (pl (60 + 2 * j))), (2, .int (iI x)), (3, .int (iI p))] [.ref (pl 13)] _ _ _ _
        refine pm_i_get pm_a49_82 rfl (cg_13 hW) rfl ?_
        show pm_E _ _ _ 85 [(0, .ref (pl 13)), (1, .ref (pl (60 + 2 * j))), (2, .int (iI x)), (3, .int (iI p))] [.int (iI (s 18))] _ _ _ _
        refine pm_e_ret pm_a49_85 rfl rfl rfl rfl rfl rfl rfl rfl ?_
        exact kx (by omega)
      · skip
        show pm_E _ _ _ 69 [(0, .ref (pl 13)), (1, .ref (pl (60 + 2 * j))), (2, .int (iI x)), (3, .int (iI p))] [] _ _ _ _
        refine pm_e_sim pm_a49_69 rfl ?_
        show pm_E _ _ _ 70 [(0, .ref (pl 13)), (1, .ref (pl (60 + 2 * j))), (2, .int (iI x)), (3, .int (iI p))] [.ref (pl 13)] _ _ _ _
        refine pm_i_get pm_a49_70 rfl (cg_13 hW) rfl ?_
        show pm_E _ _ _ 73 [(0, .ref (pl 13)), (1, .ref (pl (60 + 2 * j))), (2, .int (iI x)), (3, .int (iI p))] [.int (iI (s 18))] _ _ _ _
        refine pm_e_sim pm_a49_73 rfl ?_
        refine pm_e_top (y := iI (-1)) (by decide +kernel) ?_
        show pm_E _ _ _ 74 [(0, .ref (pl 13)), (1, .ref (pl (60 + 2 * j))), (2, .int (iI x)), (3, .int (iI p))] [.int (iI (-1)), .int (iI (s 18))] _ _ _ _
        refine pm_c_ne (t := 81) pm_a49_74 rfl ⟨by omega, by omega⟩ ⟨by omega, by omega⟩ (fun h_4 => ?_) (fun h_4 => ?_)
        · skip
          show pm_E _ _ _ 81 [(0, .ref (pl 13)), (1, .ref (pl (60 + 2 * j))), (2, .int (iI x)), (3, .int (iI p))] [] _ _ _ _
          refine pm_e_sim pm_a49_81 rfl ?_
          show pm_E _ _ _ 82 [(0, .ref (pl 13)), (1, .ref (pl (60 + 2 * j))), (2, .int (iI x)), (3, .int (iI p))] [.ref (pl 13)] _ _ _ _
          refine pm_i_get pm_a49_82 rfl (cg_13 hW) rfl ?_
          show pm_E _ _ _ 85 [(0, .ref (pl 13)), (1, .ref (pl (60 + 2 * j))), (2, .int (iI x)), (3, .int (iI p))] [.int (iI (s 18))] _ _ _ _
          refine pm_e_ret pm_a49_85 rfl rfl rfl rfl rfl rfl rfl rfl ?_
          exact kx (by omega)
        · skip
          show pm_E _ _ _ 77 [(0, .ref (pl 13)), (1, .ref (pl (60 + 2 * j))), (2, .int (iI x)), (3, .int (iI p))] [] _ _ _ _
          refine pm_e_sim pm_a49_77 rfl ?_
          refine pm_e_top (y := iI 0) (by decide +kernel) ?_
          show pm_E _ _ _ 78 [(0, .ref (pl 13)), (1, .ref (pl (60 + 2 * j))), (2, .int (iI x)), (3, .int (iI p))] [.int (iI 0)] _ _ _ _
          refine pm_e_goto pm_a49_78 rfl ?_
          show pm_E _ _ _ 85 [(0, .ref (pl 13)), (1, .ref (pl (60 + 2 * j))), (2, .int (iI x)), (3, .int (iI p))] [.int (iI 0)] _ _ _ _
          refine pm_e_ret pm_a49_85 rfl rfl rfl rfl rfl rfl rfl rfl ?_
          exfalso; omega
    · skip
      show pm_E _ _ _ 43 [(0, .ref (pl 13)), (1, .ref (pl (60 + 2 * j))), (2, .int (iI x)), (3, .int (iI p))] [] _ _ _ _
      refine pm_e_sim pm_a49_43 rfl ?_
      show pm_E _ _ _ 44 [(0, .ref (pl 13)), (1, .ref (pl (60 + 2 * j))), (2, .int (iI x)), (3, .int (iI p))] [.ref (pl 13)] _ _ _ _
      refine pm_e_sim pm_a49_44 rfl ?_
      show pm_E _ _ _ 45 [(0, .ref (pl 13)), (1, .ref (pl (60 + 2 * j))), (2, .int (iI x)), (3, .int (iI p))] [.ref (pl (60 + 2 * j)), .ref (pl 13)] _ _ _ _
      refine pm_e_sim pm_a49_45 rfl ?_
      show pm_E _ _ _ 46 [(0, .ref (pl 13)), (1, .ref (pl (60 + 2 * j))), (2, .int (iI x)), (3, .int (iI p))] [.int (iI p), .ref (pl (60 + 2 * j)), .ref (pl 13)] _ _ _ _
      refine pm_i_callv (k := (pl (60 + 2 * j))) (T2 := pm_mm47) pm_a49_46 rfl rfl rfl (cg_o hj) ⟨Nat.le_of_ble_eq_true rfl, Nat.le_of_ble_eq_true rfl, rfl, by decide +kernel⟩ ?_
      show pm_E none _ _ 0 [(0, .ref (pl (60 + 2 * j))), (1, .int (iI p))] [] _ _ _ _
      refine C_at hW hj hcj hok.1 hok.2.1 ⟨by omega, by omega⟩ ?_
      refine pm_e_top (y := iI (y.2.2 p)) (by rw [atI_y (by omega) (by omega)]) ?_
      show pm_E _ _ _ 49 [(0, .ref (pl 13)), (1, .ref (pl (60 + 2 * j))), (2, .int (iI x)), (3, .int (iI p))] [.int (iI (y.2.2 p)), .ref (pl 13)] _ _ _ _
      refine pm_i_callv (k := (pl 13)) (T2 := pm_mm50) pm_a49_49 rfl rfl rfl (cg_13 hW) ⟨Nat.le_of_ble_eq_true rfl, Nat.le_of_ble_eq_true rfl, rfl, by decide +kernel⟩ ?_
      show pm_E none _ _ 0 [(0, .ref (pl 13)), (1, .int (iI (y.2.2 p)))] [] _ _ _ _
      refine C_e_node2 (x := y.2.2 p) (st := st) (X := X) hW hR hT hs hx hnw h15 hb hb2 (fun s1 a1 f1 f2 f3 f4 f5 => ?_)
      show pm_E _ _ _ 52 [(0, .ref (pl 13)), (1, .ref (pl (60 + 2 * j))), (2, .int (iI x)), (3, .int (iI p))] [] _ _ _ _
      refine pm_e_inc (y := iI (p + 1)) pm_a49_52 rfl (iI_add _ _) (by decide +kernel) rfl ?_
      show pm_E _ _ _ 55 [(0, .ref (pl 13)), (1, .ref (pl (60 + 2 * j))), (2, .int (iI x)), (3, .int (iI (p + 1)))] [] _ _ _ _
      refine pm_e_goto pm_a49_55 rfl ?_
      show pm_E _ _ _ 27 [(0, .ref (pl 13)), (1, .ref (pl (60 + 2 * j))), (2, .int (iI x)), (3, .int (iI (p + 1)))] [] _ _ _ _
      exact k s1 a1 f1 f2 f3 f4 f5
set_option maxHeartbeats 4000000 in
set_option maxRecDepth 100000 in
theorem C_e_fin {d n : Nat} {kd pl : Nat → Nat} {s : Nat → Int} {a : Nat → Int → Int} {c : Nat → cdt} {M : List va_E} {Q : Option Value → List va_E → Nat → Nat → Prop} {j : Nat} {y : cdt} {x p : Int} {X : List Int} (hW : wf n kd pl) (hj : j < 38 ∧ al n kd pl (60 + 2 * j)) (hcj : c j = y) (hok : okx (rm j) y) (hp : p = y.1) (hT : teX s X) (h16 : s 16 = x) (h18 : in32 (s 18)) (hp9 : ∀ v ∈ X, 0 ≤ v) (k : ∀ r, ltR X x r → Q (some (.int (iI r))) (ch n kd pl s a c M) 0 0) : pm_E none (d + 6) pm_mm49 27 [(0, .ref (pl 13)), (1, .ref (pl (60 + 2 * j))), (2, .int (iI x)), (3, .int (iI p))] [] (ch n kd pl s a c M) 0 0 Q := by
  have rbj := rm_b j
  obtain ⟨_, _, _, o4⟩ := id hok
  obtain ⟨t1, t2, t3, t4⟩ := id hT
  obtain ⟨_, _⟩ := id t3
  obtain ⟨_, _⟩ := id h18
  have hyj : (c j).1 = y.1 := by rw [hcj]
  refine pm_e_sim pm_a49_27 rfl ?_
  show pm_E _ _ _ 28 [(0, .ref (pl 13)), (1, .ref (pl (60 + 2 * j))), (2, .int (iI x)), (3, .int (iI p))] [.int (iI p)] _ _ _ _
  refine pm_e_sim pm_a49_28 rfl ?_
  show pm_E _ _ _ 29 [(0, .ref (pl 13)), (1, .ref (pl (60 + 2 * j))), (2, .int (iI x)), (3, .int (iI p))] [.ref (pl (60 + 2 * j)), .int (iI p)] _ _ _ _
  refine pm_i_get pm_a49_29 rfl (cg_o hj) rfl ?_
  show pm_E _ _ _ 32 [(0, .ref (pl 13)), (1, .ref (pl (60 + 2 * j))), (2, .int (iI x)), (3, .int (iI p))] [.int (iI ((c j).1)), .int (iI p)] _ _ _ _
  refine pm_c_ge (t := 58) pm_a49_32 rfl ⟨by omega, by omega⟩ ⟨by omega, by omega⟩ (fun h_1 => ?_) (fun h_1 => ?_)
  · skip
    show pm_E _ _ _ 58 [(0, .ref (pl 13)), (1, .ref (pl (60 + 2 * j))), (2, .int (iI x)), (3, .int (iI p))] [] _ _ _ _
    refine pm_e_sim pm_a49_58 rfl ?_
    show pm_E _ _ _ 59 [(0, .ref (pl 13)), (1, .ref (pl (60 + 2 * j))), (2, .int (iI x)), (3, .int (iI p))] [.ref (pl 13)] _ _ _ _
    refine pm_i_get pm_a49_59 rfl (cg_13 hW) rfl ?_
    show pm_E _ _ _ 62 [(0, .ref (pl 13)), (1, .ref (pl (60 + 2 * j))), (2, .int (iI x)), (3, .int (iI p))] [.int (iI (s 16))] _ _ _ _
    refine pm_e_sim pm_a49_62 rfl ?_
    show pm_E _ _ _ 63 [(0, .ref (pl 13)), (1, .ref (pl (60 + 2 * j))), (2, .int (iI x)), (3, .int (iI p))] [.ref (pl 13), .int (iI (s 16))] _ _ _ _
    refine pm_i_get pm_a49_63 rfl (cg_13 hW) rfl ?_
    show pm_E _ _ _ 66 [(0, .ref (pl 13)), (1, .ref (pl (60 + 2 * j))), (2, .int (iI x)), (3, .int (iI p))] [.int (iI (s 17)), .int (iI (s 16))] _ _ _ _
    refine pm_c_ne (t := 81) pm_a49_66 rfl ⟨by omega, by omega⟩ ⟨by omega, by omega⟩ (fun h_2 => ?_) (fun h_2 => ?_)
    · skip
      show pm_E _ _ _ 81 [(0, .ref (pl 13)), (1, .ref (pl (60 + 2 * j))), (2, .int (iI x)), (3, .int (iI p))] [] _ _ _ _
      refine pm_e_sim pm_a49_81 rfl ?_
      show pm_E _ _ _ 82 [(0, .ref (pl 13)), (1, .ref (pl (60 + 2 * j))), (2, .int (iI x)), (3, .int (iI p))] [.ref (pl 13)] _ _ _ _
      refine pm_i_get pm_a49_82 rfl (cg_13 hW) rfl ?_
      show pm_E _ _ _ 85 [(0, .ref (pl 13)), (1, .ref (pl (60 + 2 * j))), (2, .int (iI x)), (3, .int (iI p))] [.int (iI (s 18))] _ _ _ _
      refine pm_e_ret pm_a49_85 rfl rfl rfl rfl rfl rfl rfl rfl ?_
      refine k _ ?_
      by_cases z9 : s 18 = -1
      · rw [z9]
        exact fnd_n hp9 (by rw [← h16, ← t2]; exact z9) (by omega)
      · have h9 := fnd_p (w := x) (X := X) (R := []) (by rw [← h16, ← t2]; exact z9)
        rw [List.append_nil] at h9
        rw [t2, h16]
        exact h9
    · skip
      show pm_E _ _ _ 69 [(0, .ref (pl 13)), (1, .ref (pl (60 + 2 * j))), (2, .int (iI x)), (3, .int (iI p))] [] _ _ _ _
      refine pm_e_sim pm_a49_69 rfl ?_
      show pm_E _ _ _ 70 [(0, .ref (pl 13)), (1, .ref (pl (60 + 2 * j))), (2, .int (iI x)), (3, .int (iI p))] [.ref (pl 13)] _ _ _ _
      refine pm_i_get pm_a49_70 rfl (cg_13 hW) rfl ?_
      show pm_E _ _ _ 73 [(0, .ref (pl 13)), (1, .ref (pl (60 + 2 * j))), (2, .int (iI x)), (3, .int (iI p))] [.int (iI (s 18))] _ _ _ _
      refine pm_e_sim pm_a49_73 rfl ?_
      refine pm_e_top (y := iI (-1)) (by decide +kernel) ?_
      show pm_E _ _ _ 74 [(0, .ref (pl 13)), (1, .ref (pl (60 + 2 * j))), (2, .int (iI x)), (3, .int (iI p))] [.int (iI (-1)), .int (iI (s 18))] _ _ _ _
      refine pm_c_ne (t := 81) pm_a49_74 rfl ⟨by omega, by omega⟩ ⟨by omega, by omega⟩ (fun h_3 => ?_) (fun h_3 => ?_)
      · skip
        show pm_E _ _ _ 81 [(0, .ref (pl 13)), (1, .ref (pl (60 + 2 * j))), (2, .int (iI x)), (3, .int (iI p))] [] _ _ _ _
        refine pm_e_sim pm_a49_81 rfl ?_
        show pm_E _ _ _ 82 [(0, .ref (pl 13)), (1, .ref (pl (60 + 2 * j))), (2, .int (iI x)), (3, .int (iI p))] [.ref (pl 13)] _ _ _ _
        refine pm_i_get pm_a49_82 rfl (cg_13 hW) rfl ?_
        show pm_E _ _ _ 85 [(0, .ref (pl 13)), (1, .ref (pl (60 + 2 * j))), (2, .int (iI x)), (3, .int (iI p))] [.int (iI (s 18))] _ _ _ _
        refine pm_e_ret pm_a49_85 rfl rfl rfl rfl rfl rfl rfl rfl ?_
        refine k _ ?_
        by_cases z9 : s 18 = -1
        · rw [z9]
          exact fnd_n hp9 (by rw [← h16, ← t2]; exact z9) (by omega)
        · have h9 := fnd_p (w := x) (X := X) (R := []) (by rw [← h16, ← t2]; exact z9)
          rw [List.append_nil] at h9
          rw [t2, h16]
          exact h9
      · skip
        show pm_E _ _ _ 77 [(0, .ref (pl 13)), (1, .ref (pl (60 + 2 * j))), (2, .int (iI x)), (3, .int (iI p))] [] _ _ _ _
        refine pm_e_sim pm_a49_77 rfl ?_
        refine pm_e_top (y := iI 0) (by decide +kernel) ?_
        show pm_E _ _ _ 78 [(0, .ref (pl 13)), (1, .ref (pl (60 + 2 * j))), (2, .int (iI x)), (3, .int (iI p))] [.int (iI 0)] _ _ _ _
        refine pm_e_goto pm_a49_78 rfl ?_
        show pm_E _ _ _ 85 [(0, .ref (pl 13)), (1, .ref (pl (60 + 2 * j))), (2, .int (iI x)), (3, .int (iI p))] [.int (iI 0)] _ _ _ _
        refine pm_e_ret pm_a49_85 rfl rfl rfl rfl rfl rfl rfl rfl ?_
        exact k _ (fnd_e (by omega))
  · skip
    exfalso; omega
theorem isw_0 {w c : Int} {st : List (Int × Int)} : isw ((0, w) :: st) c = decide (c = 1) := by
  show decide (((0 : Int) = 0 ∧ c = 1) ∨ ((0 : Int) = 1 ∧ (c = 1 ∨ c = 0))) = _
  exact decide_eq_decide.mpr (by omega)
theorem isw_1 {w c : Int} {st : List (Int × Int)} (h : 0 ≤ c) : isw ((1, w) :: st) c = decide (c < 2) := by
  show decide (((1 : Int) = 0 ∧ c = 1) ∨ ((1 : Int) = 1 ∧ (c = 1 ∨ c = 0))) = _
  exact decide_eq_decide.mpr (by omega)
theorem isw_2 {w c : Int} {st : List (Int × Int)} : isw ((2, w) :: st) c = false := by
  show decide (((2 : Int) = 0 ∧ c = 1) ∨ ((2 : Int) = 1 ∧ (c = 1 ∨ c = 0))) = _
  exact decide_eq_false (by omega)
theorem isw_l {c : Int} : ∀ {st : List (Int × Int)}, 2 ≤ c → isw st c = false
  | [], _ => rfl
  | x :: r, h => decide_eq_false (by omega)
theorem wr_e {b : Bool} {l : List Int} : wr b l = (if b = true then [40] else []) ++ (l ++ (if b = true then [41] else [])) := by
  unfold wr
  cases b
  · show l = [] ++ (l ++ []); rw [List.append_nil]; rfl
  · show [40] ++ l ++ [41] = _; rw [List.append_assoc]; rfl
theorem lvX_w {u : Int} {b : Bool} {st : List (Int × Int)} (h : u ≠ 0) : lvX ((u, (if b = true then 4 else 0)) :: st) = (if b = true then [41] else []) ++ lvX st := by
  cases b
  · exact lvX_1 h rfl
  · exact lvX_2 h (by decide)
theorem fnd_in {w : Int} {X : List Int} (h : ∀ v ∈ X, 0 ≤ v ∧ v < 100000) : in32 (fnd w X) := by
  unfold fnd
  split
  · rename_i c
    rw [List.getD_eq_getElem?_getD, List.getElem?_eq_getElem (by omega)]
    have h2 := h _ (List.getElem_mem (l := X) (n := w.toNat) (by omega))
    show in32 (X[w.toNat]'(by omega))
    exact ⟨by omega, by omega⟩
  · decide
def teG (s0 : Nat → Int) (a0 : Nat → Int → Int) (s : Nat → Int) (a : Nat → Int → Int) : Prop := (∀ i, i < 14 ∨ 18 < i → s i = s0 i) ∧ (∀ i, i ≠ 6 → a i = a0 i)
set_option maxHeartbeats 4000000 in
theorem C_e_str {d n : Nat} {kd pl : Nat → Nat} {c : Nat → cdt} {M : List va_E} {Q : Option Value → List va_E → Nat → Nat → Prop} {j : Nat} {y : cdt} {x : Int} {s0 : Nat → Int} {a0 : Nat → Int → Int} {Lt : List Int} (hW : wf n kd pl) (hj : j < 38 ∧ al n kd pl (60 + 2 * j)) (hcj : c j = y) (hok : okx (rm j) y) (hy5 : y.1 ≤ 500) (hLt : Lt.length ≤ 3050) (hLp : ∀ v ∈ Lt, 0 ≤ v ∧ v < 100000) (kx : ∀ s' a' r, teG s0 a0 s' a' → (0 ≤ s' 14 ∧ s' 14 < 2147483648) → ltR Lt x r → Q (some (.int (iI r))) (ch n kd pl s' a' c M) 0 0) : ∀ (f : Nat) (k p e : Int) (l : List Int) (st : List (Int × Int)) (X R : List Int) (s : Nat → Int) (a : Nat → Int → Int), txt y.2.2 f k p e l → stR st s a → teX s X → s 16 = x → s 15 = k → 0 ≤ k → k ≤ p → (st.length : Int) ≤ p → e ≤ y.1 → X ++ (wr (isw st (y.2.2 p)) l ++ (lvX st ++ R)) = Lt → teG s0 a0 s a → (∀ s' a', teG s0 a0 s' a' → stR (lvS st) s' a' → teX s' (X ++ (wr (isw st (y.2.2 p)) l ++ lvX st)) → s' 16 = x → s' 15 = k - lvD st → pm_E none (d + 6) pm_mm49 27 [(0, .ref (pl 13)), (1, .ref (pl (60 + 2 * j))), (2, .int (iI x)), (3, .int (iI e))] [] (ch n kd pl s' a' c M) 0 0 Q) → pm_E none (d + 6) pm_mm49 27 [(0, .ref (pl 13)), (1, .ref (pl (60 + 2 * j))), (2, .int (iI x)), (3, .int (iI p))] [] (ch n kd pl s a c M) 0 0 Q := by
  intro f
  induction f with
  | zero => intro k p e l st X R s a h; exact h.elim
  | succ f ih =>
    intro k p e l st X R s a h hR hT h16 h15 hk0 hkp hsl he hL hF K
    have lt := txt_lt h
    have rbj := rm_b j
    obtain ⟨_, o2, _, _⟩ := id hok
    have hs5 : st.length < 500 := by omega
    have hR1 := hR.1
    obtain ⟨t1, t2, t3, t4⟩ := id hT
    have hXL : X.length + ((wr (isw st (y.2.2 p)) l).length + ((lvX st).length + R.length)) = Lt.length := by rw [← hL]; simp only [List.length_append]
    have h18 : in32 (s 18) := by
      rw [t2]
      exact fnd_in (fun v hv => hLp v (by rw [← hL]; exact List.mem_append_left _ hv))
    have kx9 : s 18 ≠ -1 → Q (some (.int (iI (s 18)))) (ch n kd pl s a c M) 0 0 := fun z => by
      refine kx s a (s 18) hF ⟨by omega, by omega⟩ ?_
      rw [t2, h16, ← hL]
      exact fnd_p (by rw [← h16, ← t2]; exact z)
    have fr : ∀ (s1 : Nat → Int) (a1 : Nat → Int → Int), (∀ i, i ≠ 14 → i ≠ 15 → i ≠ 17 → i ≠ 18 → s1 i = s i) → (∀ i, i ≠ 6 → a1 i = a i) → teG s0 a0 s1 a1 ∧ s1 16 = x := fun s1 a1 f1 f2 => ⟨⟨fun i hi => (f1 i (by omega) (by omega) (by omega) (by omega)).trans (hF.1 i hi), fun i hi => (f2 i hi).trans (hF.2 i hi)⟩, (f1 16 (by decide) (by decide) (by decide) (by decide)).trans h16⟩
    rcases h with ⟨h0, m, l1, l2, h1, h2, h3⟩ | ⟨h0, l1, h1, h2⟩ | ⟨h0, hb, h1, h2⟩
    · have q1 := txt_lt h1
      have q2 := txt_lt h2
      have hm0 := (tm_in hk0 (txt_tm h2) m (by omega) q2).1
      have hb1 : X.length + 1 ≤ 3100 := by omega
      refine C_e_s0 (p := p) (x := x) hW hj hcj hok (by omega) (by omega) hR hT hs5 h18 h0 hb1 kx9 (fun s1 a1 f1 f2 f3 f4 f5 => ?_)
      obtain ⟨F1, x1⟩ := fr s1 a1 f1 f2
      generalize hbw : isw st (y.2.2 p) = b at f3 f5 hL K
      have hL1 : (X ++ (if b = true then [40] else [])) ++ (wr (isw ((0, (if b = true then 4 else 0)) :: st) (y.2.2 (p + 1))) l1 ++ (lvX ((0, (if b = true then 4 else 0)) :: st) ++ (wr (decide (y.2.2 m < 2)) l2 ++ ((if b = true then [41] else []) ++ (lvX st ++ R))))) = Lt := by
        rw [← hL, isw_0, lvX_0 rfl, wr_e (b := b), h3]
        simp only [List.append_assoc]
      refine ih k (p + 1) m l1 _ _ _ s1 a1 h1 f3 f5 x1 (f4.trans h15) hk0 (by omega) (by rw [List.length_cons]; omega) (by omega) hL1 F1 (fun s2 a2 F2 r2 t2 x2 d2 => ?_)
      rw [lvS_0 rfl] at r2
      rw [isw_0, lvX_0 rfl] at t2
      rw [lvD_0 rfl, Int.sub_zero] at d2
      have hL2 : ((X ++ (if b = true then [40] else [])) ++ (wr (decide (y.2.2 (p + 1) = 1)) l1 ++ [32])) ++ (wr (isw ((1, (if b = true then 4 else 0)) :: st) (y.2.2 m)) l2 ++ (lvX ((1, (if b = true then 4 else 0)) :: st) ++ R)) = Lt := by
        rw [← hL, isw_1 hm0, lvX_w (by decide), wr_e (b := b), h3]
        simp only [List.append_assoc]
      refine ih k m e l2 _ _ _ s2 a2 h2 r2 t2 x2 d2 hk0 (by omega) (by rw [List.length_cons]; omega) he hL2 F2 (fun s3 a3 F3 r3 t3 x3 d3 => ?_)
      rw [lvS_1 (by decide)] at r3
      rw [lvD_1 (by decide) (by decide)] at d3
      refine K s3 a3 F3 r3 ?_ x3 d3
      have e9 : X ++ (wr b l ++ lvX st) = ((X ++ (if b = true then [40] else [])) ++ (wr (decide (y.2.2 (p + 1) = 1)) l1 ++ [32])) ++ (wr (isw ((1, (if b = true then 4 else 0)) :: st) (y.2.2 m)) l2 ++ lvX ((1, (if b = true then 4 else 0)) :: st)) := by
        rw [isw_1 hm0, lvX_w (by decide), wr_e (b := b), h3]
        simp only [List.append_assoc]
      rw [e9]
      exact t3
    · have q1 := txt_lt h1
      have hb1 : X.length + 5 ≤ 3100 := by omega
      refine C_e_s1 (p := p) (x := x) hW hj hcj hok (by omega) (by omega) hR hT hs5 h18 h0 ⟨by omega, by omega⟩ hb1 kx9 (fun s1 a1 f1 f2 f3 f4 f5 => ?_)
      obtain ⟨F1, x1⟩ := fr s1 a1 f1 f2
      generalize hbw : isw st (y.2.2 p) = b at f3 f5 hL K
      rw [h15] at f5 f4
      have hL1 : (X ++ (if b = true then [40] else []) ++ txN 1 k) ++ (wr (isw ((2, (if b = true then 4 else 0)) :: st) (y.2.2 (p + 1))) l1 ++ (lvX ((2, (if b = true then 4 else 0)) :: st) ++ R)) = Lt := by
        rw [← hL, isw_2, lvX_w (by decide), wr_e (b := b), h2]
        show _ ++ (l1 ++ _) = _
        simp only [List.append_assoc]
      refine ih (k + 1) (p + 1) e l1 _ _ _ s1 a1 h1 f3 f5 x1 f4 (by omega) (by omega) (by rw [List.length_cons]; omega) he hL1 F1 (fun s3 a3 F3 r3 t3 x3 d3 => ?_)
      rw [lvS_1 (by decide)] at r3
      rw [lvD_2 rfl] at d3
      refine K s3 a3 F3 r3 ?_ x3 (by omega)
      have e9 : X ++ (wr b l ++ lvX st) = (X ++ (if b = true then [40] else []) ++ txN 1 k) ++ (wr (isw ((2, (if b = true then 4 else 0)) :: st) (y.2.2 (p + 1))) l1 ++ lvX ((2, (if b = true then 4 else 0)) :: st)) := by
        rw [isw_2, lvX_w (by decide), wr_e (b := b), h2]
        show _ = _ ++ (l1 ++ _)
        simp only [List.append_assoc]
      rw [e9]
      exact t3
    · have hnw : isw st (y.2.2 p) = false := isw_l h0
      rw [hnw] at hL K hXL
      have e9 : wr false l = l := rfl
      rw [e9] at hL K hXL
      subst h1
      refine C_e_s2 (p := p) (x := x) hW hj hcj hok (by omega) (by omega) hR hT hs5 h18 ⟨h0, by omega⟩ hnw (by omega) (by rw [h15, ← h2]; omega) (by omega) kx9 (fun s1 a1 f1 f2 f3 f4 f5 => ?_)
      obtain ⟨F1, x1⟩ := fr s1 a1 f1 f2
      refine K s1 a1 F1 f3 ?_ x1 (by rw [f4, h15])
      rw [h15, ← h2, List.append_assoc] at f5
      exact f5
set_option maxHeartbeats 4000000 in
set_option maxRecDepth 100000 in
theorem C_e_byteOf {d n : Nat} {kd pl : Nat → Nat} {s : Nat → Int} {a : Nat → Int → Int} {c : Nat → cdt} {M : List va_E} {Q : Option Value → List va_E → Nat → Nat → Prop} {j ft : Nat} {y : cdt} {x : Int} {l : List Int} (hW : wf n kd pl) (hj : j < 38 ∧ al n kd pl (60 + 2 * j)) (hcj : c j = y) (hok : okx (rm j) y) (hy5 : y.1 ≤ 500) (hx : in32 x) (htx : txt y.2.2 ft 0 0 y.1 l) (k : ∀ s' a' r, teF s a s' a' → ltR l x r → Q (some (.int (iI r))) (ch n kd pl s' a' c M) 0 0) : pm_E none (d + 6) pm_mm49 0 [(0, .ref (pl 13)), (1, .ref (pl (60 + 2 * j))), (2, .int (iI x))] [] (ch n kd pl s a c M) 0 0 Q := by
  have hll := txt_len htx
  have rbj := rm_b j
  obtain ⟨_, o2, _, _⟩ := id hok
  have hlp : ∀ v ∈ l, 0 ≤ v ∧ v < 100000 := fun v hv => ⟨txt_pos htx (Int.le_refl 0) v hv, txt_up htx (by omega) v hv⟩
  refine pm_e_sim pm_a49_0 rfl ?_
  show pm_E _ _ _ 1 [(0, .ref (pl 13)), (1, .ref (pl (60 + 2 * j))), (2, .int (iI x))] [.ref (pl 13)] _ _ _ _
  refine pm_e_sim pm_a49_1 rfl ?_
  refine pm_e_top (y := iI 0) (by decide +kernel) ?_
  show pm_E _ _ _ 2 [(0, .ref (pl 13)), (1, .ref (pl (60 + 2 * j))), (2, .int (iI x))] [.int (iI 0), .ref (pl 13)] _ _ _ _
  refine pm_i_put pm_a49_2 rfl (cg_13 hW) rfl (Nat.le_of_ble_eq_true rfl) (Or.inl rfl) (cw_14 hW 0) ?_
  show pm_E _ _ _ 5 [(0, .ref (pl 13)), (1, .ref (pl (60 + 2 * j))), (2, .int (iI x))] [] _ _ _ _
  refine pm_e_sim pm_a49_5 rfl ?_
  show pm_E _ _ _ 6 [(0, .ref (pl 13)), (1, .ref (pl (60 + 2 * j))), (2, .int (iI x))] [.ref (pl 13)] _ _ _ _
  refine pm_e_sim pm_a49_6 rfl ?_
  refine pm_e_top (y := iI 0) (by decide +kernel) ?_
  show pm_E _ _ _ 7 [(0, .ref (pl 13)), (1, .ref (pl (60 + 2 * j))), (2, .int (iI x))] [.int (iI 0), .ref (pl 13)] _ _ _ _
  refine pm_i_put pm_a49_7 rfl (cg_13 hW) rfl (Nat.le_of_ble_eq_true rfl) (Or.inl rfl) (cw_15 hW 0) ?_
  show pm_E _ _ _ 10 [(0, .ref (pl 13)), (1, .ref (pl (60 + 2 * j))), (2, .int (iI x))] [] _ _ _ _
  refine pm_e_sim pm_a49_10 rfl ?_
  show pm_E _ _ _ 11 [(0, .ref (pl 13)), (1, .ref (pl (60 + 2 * j))), (2, .int (iI x))] [.ref (pl 13)] _ _ _ _
  refine pm_e_sim pm_a49_11 rfl ?_
  show pm_E _ _ _ 12 [(0, .ref (pl 13)), (1, .ref (pl (60 + 2 * j))), (2, .int (iI x))] [.int (iI x), .ref (pl 13)] _ _ _ _
  refine pm_i_put pm_a49_12 rfl (cg_13 hW) rfl (Nat.le_of_ble_eq_true rfl) (Or.inl rfl) (cw_16 hW x) ?_
  show pm_E _ _ _ 15 [(0, .ref (pl 13)), (1, .ref (pl (60 + 2 * j))), (2, .int (iI x))] [] _ _ _ _
  refine pm_e_sim pm_a49_15 rfl ?_
  show pm_E _ _ _ 16 [(0, .ref (pl 13)), (1, .ref (pl (60 + 2 * j))), (2, .int (iI x))] [.ref (pl 13)] _ _ _ _
  refine pm_e_sim pm_a49_16 rfl ?_
  refine pm_e_top (y := iI 0) (by decide +kernel) ?_
  show pm_E _ _ _ 17 [(0, .ref (pl 13)), (1, .ref (pl (60 + 2 * j))), (2, .int (iI x))] [.int (iI 0), .ref (pl 13)] _ _ _ _
  refine pm_i_put pm_a49_17 rfl (cg_13 hW) rfl (Nat.le_of_ble_eq_true rfl) (Or.inl rfl) (cw_17 hW 0) ?_
  show pm_E _ _ _ 20 [(0, .ref (pl 13)), (1, .ref (pl (60 + 2 * j))), (2, .int (iI x))] [] _ _ _ _
  refine pm_e_sim pm_a49_20 rfl ?_
  show pm_E _ _ _ 21 [(0, .ref (pl 13)), (1, .ref (pl (60 + 2 * j))), (2, .int (iI x))] [.ref (pl 13)] _ _ _ _
  refine pm_e_sim pm_a49_21 rfl ?_
  refine pm_e_top (y := iI (-1)) (by decide +kernel) ?_
  show pm_E _ _ _ 22 [(0, .ref (pl 13)), (1, .ref (pl (60 + 2 * j))), (2, .int (iI x))] [.int (iI (-1)), .ref (pl 13)] _ _ _ _
  refine pm_i_put pm_a49_22 rfl (cg_13 hW) rfl (Nat.le_of_ble_eq_true rfl) (Or.inl rfl) (cw_18 hW (-1)) ?_
  show pm_E _ _ _ 25 [(0, .ref (pl 13)), (1, .ref (pl (60 + 2 * j))), (2, .int (iI x))] [] _ _ _ _
  refine pm_e_sim pm_a49_25 rfl ?_
  refine pm_e_top (y := iI 0) (by decide +kernel) ?_
  show pm_E _ _ _ 26 [(0, .ref (pl 13)), (1, .ref (pl (60 + 2 * j))), (2, .int (iI x))] [.int (iI 0)] _ _ _ _
  refine pm_e_sim pm_a49_26 rfl ?_
  show pm_E _ _ _ 27 [(0, .ref (pl 13)), (1, .ref (pl (60 + 2 * j))), (2, .int (iI x)), (3, .int (iI 0))] [] _ _ _ _
  refine C_e_str (s0 := s) (a0 := a) (Lt := l) hW hj hcj hok hy5 (by omega) hlp (fun s' a' r G b hr => k s' a' r ⟨G.1, G.2, b, trivial⟩ hr) ft 0 0 y.1 l [] [] [] _ _ htx ⟨rfl, rfl, fun y hy => absurd hy List.not_mem_nil, by decide⟩ ⟨rfl, (by show (-1 : Int) = fnd x []; exact (if_neg (by show ¬ (0 ≤ x ∧ x < ((0 : Nat) : Int)); omega)).symm), hx, by decide⟩ rfl rfl (Int.le_refl 0) (Int.le_refl 0) (Int.le_refl 0) (Int.le_refl _) (by show [] ++ (wr false l ++ ([] ++ [])) = l; rw [List.append_nil, List.nil_append]; exact List.append_nil l) ⟨fun i hi => by simp only [updS]; rw [if_neg (by omega), if_neg (by omega), if_neg (by omega), if_neg (by omega), if_neg (by omega)], fun i hi => rfl⟩ (fun s' a' G r t x9 d9 => ?_)
  have e9 : ([] : List Int) ++ (wr (isw [] (y.2.2 0)) l ++ lvX []) = l := by show [] ++ (l ++ []) = l; rw [List.append_nil]; rfl
  rw [e9] at t
  have h14 := r.1
  exact C_e_fin (p := y.1) hW hj hcj hok rfl t x9 (by rw [t.2.1]; exact fnd_in hlp) (fun v hv => (hlp v hv).1) (fun r9 hr9 => k s' a' r9 ⟨G.1, G.2, ⟨by show 0 ≤ s' 14; rw [h14]; omega, by show s' 14 < _; rw [h14]; show ((0 : Nat) : Int) < _; omega⟩, trivial⟩ hr9)
