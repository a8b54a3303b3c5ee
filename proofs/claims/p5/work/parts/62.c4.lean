/-! THE CLASS: Shape.measure -/
theorem C_meas_b {d n : Nat} {kd pl : Nat → Nat} {s : Nat → Int} {a : Nat → Int → Int} {c : Nat → cdt} {M : List va_E} {Q : Option Value → List va_E → Nat → Nat → Prop} {j : Nat} {x e z : Int} (hW : wf n kd pl) (hj : j < 38 ∧ al n kd pl (60 + 2 * j)) (hok : okx (rm j) (c j)) (hx0 : 0 ≤ x) (hz : z < 502) (hzc : z < (c j).1) : ∀ (f : Nat) {k p q : Int}, tm (c j).2.2 f k p q → x ≤ p → q ≤ z + 1 → ∀ E : Int → Int, (∀ r, in32 (E r)) → (∀ E' : Int → Int, en (c j).2.2 E' p q → (∀ r, r < p ∨ q ≤ r → E' r = E r) → (∀ r, in32 (E' r)) → pm_E none (d + 2) pm_mm70 17 [(0, .ref (pl 6)), (1, .ref (pl (60 + 2 * j))), (2, .int (iI x)), (3, .int (iI e)), (4, .int (iI z)), (5, .int (iI (p - 1)))] [] (ch n kd pl s (updA a 1 E') c M) 0 0 Q) → pm_E none (d + 2) pm_mm70 17 [(0, .ref (pl 6)), (1, .ref (pl (60 + 2 * j))), (2, .int (iI x)), (3, .int (iI e)), (4, .int (iI z)), (5, .int (iI (q - 1)))] [] (ch n kd pl s (updA a 1 E) c M) 0 0 Q := by
  intro f
  induction f with
  | zero => intro k p q t; exact t.elim
  | succ f ih =>
    intro k p q t hxp hqz E hE kk
    have lt := tm_lt t
    have one : ∀ (E1 : Int → Int) (v : Int), (∀ r, in32 (E1 r)) → ebI (updA a 1 E1) ((c j).2.2 p) p = v → en (c j).2.2 E1 (p + 1) q → (∀ r, r < p + 1 ∨ q ≤ r → E1 r = E r) → v = q → in32 v → pm_E none (d + 2) pm_mm70 17 [(0, .ref (pl 6)), (1, .ref (pl (60 + 2 * j))), (2, .int (iI x)), (3, .int (iI e)), (4, .int (iI z)), (5, .int (iI p))] [] (ch n kd pl s (updA a 1 E1) c M) 0 0 Q := by
      intro E1 v h1 h2 h3 h4 h5 h6
      refine C_meas_b1 (a := updA a 1 E1) hW hj hok h1 hx0 hz hxp (by omega) (by omega) ?_
      rw [h2, updA_s]
      refine kk (updI E1 p v) ?_ ?_ (updI_in h1 h6)
      · intro r r1 r2
        by_cases hr : r = p
        · rw [hr, updI_s, h5]; exact ⟨_, _, t⟩
        · rw [updI_n _ _ hr]; exact h3 r (by omega) r2
      · intro r hr
        rw [updI_n _ _ (by omega)]; exact h4 r (by omega)
    rcases id t with ⟨h0, m, t1, t2⟩ | ⟨h0, t1⟩ | ⟨h0, h1, h2⟩
    · have l1 := tm_lt t1; have l2 := tm_lt t2
      refine ih t2 (by omega) hqz E hE (fun E1 a1 a2 a3 => ?_)
      refine ih t1 (by omega) (by omega) E1 a3 (fun E2 b1 b2 b3 => ?_)
      show pm_E _ _ _ 17 [_, _, _, _, _, (5, .int (iI (p + 1 - 1)))] [] _ _ _ _
      rw [show p + 1 - 1 = p by omega]
      obtain ⟨f1, k1, q1⟩ := b1 (p + 1) (by omega) l1
      have e1 : E2 (p + 1) = m := tm_one q1 t1
      obtain ⟨f2, k2, q2⟩ := a1 m (by omega) l2
      have e2 : E2 m = q := by rw [b2 m (by omega)]; exact tm_one q2 t2
      refine one E2 q b3 ?_ ?_ (fun r hr => by rw [b2 r (by omega)]; exact a2 r (by omega)) rfl ⟨by omega, by omega⟩
      · unfold ebI
        have hh : shE (updA a 1 E2) (p + 1) = m := by rw [shE_y (by omega) (by omega)]; exact e1
        rw [if_neg (by omega), if_pos h0, hh, shE_y (by omega) (by omega)]
        exact e2
      · intro r r1 r2
        by_cases hr : r < m
        · exact b1 r r1 hr
        · rw [b2 r (by omega)]; exact a1 r (by omega) r2
    · have l1 := tm_lt t1
      refine ih t1 (by omega) hqz E hE (fun E1 a1 a2 a3 => ?_)
      show pm_E _ _ _ 17 [_, _, _, _, _, (5, .int (iI (p + 1 - 1)))] [] _ _ _ _
      rw [show p + 1 - 1 = p by omega]
      obtain ⟨f1, k1, q1⟩ := a1 (p + 1) (by omega) l1
      have e1 : E1 (p + 1) = q := tm_one q1 t1
      refine one E1 q a3 ?_ a1 a2 rfl ⟨by omega, by omega⟩
      unfold ebI
      rw [if_pos h0, shE_y (by omega) (by omega)]
      exact e1
    · show pm_E _ _ _ 17 [_, _, _, _, _, (5, .int (iI (q - 1)))] [] _ _ _ _
      rw [show q - 1 = p by omega]
      refine one E q hE ?_ (fun r r1 r2 => by omega) (fun r _ => rfl) rfl ⟨by omega, by omega⟩
      unfold ebI
      rw [if_neg (by omega), if_neg (by omega)]
      omega
set_option maxHeartbeats 4000000 in
set_option maxRecDepth 100000 in
theorem C_meas_f1 {d n : Nat} {kd pl : Nat → Nat} {s : Nat → Int} {a : Nat → Int → Int} {c : Nat → cdt} {M : List va_E} {Q : Option Value → List va_E → Nat → Nat → Prop} {j : Nat} {x e z i : Int} (hW : wf n kd pl) (hj : j < 38 ∧ al n kd pl (60 + 2 * j)) (hok : okx (rm j) (c j)) (hx0 : 0 ≤ x) (hz : z < 502) (hzc : z < (c j).1) (hi0 : 0 ≤ i) (hiz : i ≤ z) (h1 : (c j).2.2 i = 1 ∨ (c j).2.2 i = 0 → i + 1 < 502) (hm : (c j).2.2 i = 0 → 0 ≤ a 1 (i + 1) ∧ a 1 (i + 1) < 502) (k1 : (c j).2.2 i = 1 → pm_E none (d + 2) pm_mm70 61 [(0, .ref (pl 6)), (1, .ref (pl (60 + 2 * j))), (2, .int (iI x)), (3, .int (iI e)), (4, .int (iI z)), (5, .int (iI (i + 1)))] [] (ch n kd pl s (updA a 2 (updI (a 2) (i + 1) (a 2 i + 1))) c M) 0 0 Q) (k0 : (c j).2.2 i = 0 → pm_E none (d + 2) pm_mm70 61 [(0, .ref (pl 6)), (1, .ref (pl (60 + 2 * j))), (2, .int (iI x)), (3, .int (iI e)), (4, .int (iI z)), (5, .int (iI (i + 1)))] [] (ch n kd pl s (updA a 2 (updI (updI (a 2) (i + 1) (a 2 i)) (a 1 (i + 1)) (a 2 i))) c M) 0 0 Q) (k2 : (c j).2.2 i ≠ 1 → (c j).2.2 i ≠ 0 → pm_E none (d + 2) pm_mm70 61 [(0, .ref (pl 6)), (1, .ref (pl (60 + 2 * j))), (2, .int (iI x)), (3, .int (iI e)), (4, .int (iI z)), (5, .int (iI (i + 1)))] [] (ch n kd pl s (a) c M) 0 0 Q) : pm_E none (d + 2) pm_mm70 61 [(0, .ref (pl 6)), (1, .ref (pl (60 + 2 * j))), (2, .int (iI x)), (3, .int (iI e)), (4, .int (iI z)), (5, .int (iI i))] [] (ch n kd pl s a c M) 0 0 Q := by
  have rb := rm_b j
  obtain ⟨o1, o2, o3, o4⟩ := id hok
  refine pm_e_sim pm_a70_61 rfl ?_
  show pm_E _ _ _ 63 [(0, .ref (pl 6)), (1, .ref (pl (60 + 2 * j))), (2, .int (iI x)), (3, .int (iI e)), (4, .int (iI z)), (5, .int (iI i))] [.int (iI i)] _ _ _ _
  refine pm_e_sim pm_a70_63 rfl ?_
  show pm_E _ _ _ 65 [(0, .ref (pl 6)), (1, .ref (pl (60 + 2 * j))), (2, .int (iI x)), (3, .int (iI e)), (4, .int (iI z)), (5, .int (iI i))] [.int (iI z), .int (iI i)] _ _ _ _
  refine pm_c_gt (t := 86) pm_a70_65 rfl ⟨by omega, by omega⟩ ⟨by omega, by omega⟩ (fun h_1 => ?_) (fun h_1 => ?_)
  · skip
    exfalso; omega
  · skip
    show pm_E _ _ _ 68 [(0, .ref (pl 6)), (1, .ref (pl (60 + 2 * j))), (2, .int (iI x)), (3, .int (iI e)), (4, .int (iI z)), (5, .int (iI i))] [] _ _ _ _
    refine pm_e_sim pm_a70_68 rfl ?_
    show pm_E _ _ _ 69 [(0, .ref (pl 6)), (1, .ref (pl (60 + 2 * j))), (2, .int (iI x)), (3, .int (iI e)), (4, .int (iI z)), (5, .int (iI i))] [.ref (pl 6)] _ _ _ _
    refine pm_e_sim pm_a70_69 rfl ?_
    show pm_E _ _ _ 70 [(0, .ref (pl 6)), (1, .ref (pl (60 + 2 * j))), (2, .int (iI x)), (3, .int (iI e)), (4, .int (iI z)), (5, .int (iI i))] [.ref (pl (60 + 2 * j)), .ref (pl 6)] _ _ _ _
    refine pm_e_sim pm_a70_70 rfl ?_
    show pm_E _ _ _ 72 [(0, .ref (pl 6)), (1, .ref (pl (60 + 2 * j))), (2, .int (iI x)), (3, .int (iI e)), (4, .int (iI z)), (5, .int (iI i))] [.int (iI i), .ref (pl (60 + 2 * j)), .ref (pl 6)] _ _ _ _
    refine pm_i_callv (k := (pl (60 + 2 * j))) (T2 := pm_mm47) pm_a70_72 rfl rfl rfl (cg_o hj) ⟨Nat.le_of_ble_eq_true rfl, Nat.le_of_ble_eq_true rfl, rfl, by decide +kernel⟩ ?_
    show pm_E none _ _ 0 [(0, .ref (pl (60 + 2 * j))), (1, .int (iI i))] [] _ _ _ _
    refine C_at hW hj rfl hok.1 hok.2.1 ⟨by omega, by omega⟩ ?_
    rw [atI_y (by omega) (by omega)]
    show pm_E _ _ _ 75 [(0, .ref (pl 6)), (1, .ref (pl (60 + 2 * j))), (2, .int (iI x)), (3, .int (iI e)), (4, .int (iI z)), (5, .int (iI i))] [.int (iI ((c j).2.2 i)), .ref (pl 6)] _ _ _ _
    refine pm_e_sim pm_a70_75 rfl ?_
    show pm_E _ _ _ 77 [(0, .ref (pl 6)), (1, .ref (pl (60 + 2 * j))), (2, .int (iI x)), (3, .int (iI e)), (4, .int (iI z)), (5, .int (iI i))] [.int (iI i), .int (iI ((c j).2.2 i)), .ref (pl 6)] _ _ _ _
    refine pm_i_callv (k := (pl 6)) (T2 := pm_mm74) pm_a70_77 rfl rfl rfl (cg_6 hW) ⟨Nat.le_of_ble_eq_true rfl, Nat.le_of_ble_eq_true rfl, rfl, by decide +kernel⟩ ?_
    show pm_E none _ _ 0 [(0, .ref (pl 6)), (1, .int (iI ((c j).2.2 i))), (2, .int (iI i))] [] _ _ _ _
    refine C_spreadDepth hW (hok.2.2.2 _) ⟨by omega, by omega⟩ h1 hm (fun h => ?_) (fun h => ?_) (fun h h2 => ?_)
    · skip
      show pm_E _ _ _ 80 [(0, .ref (pl 6)), (1, .ref (pl (60 + 2 * j))), (2, .int (iI x)), (3, .int (iI e)), (4, .int (iI z)), (5, .int (iI i))] [] _ _ _ _
      refine pm_e_inc (y := iI (i + 1)) pm_a70_80 rfl (iI_add _ _) (by decide +kernel) rfl ?_
      show pm_E _ _ _ 83 [(0, .ref (pl 6)), (1, .ref (pl (60 + 2 * j))), (2, .int (iI x)), (3, .int (iI e)), (4, .int (iI z)), (5, .int (iI (i + 1)))] [] _ _ _ _
      refine pm_e_goto pm_a70_83 rfl ?_
      show pm_E _ _ _ 61 [(0, .ref (pl 6)), (1, .ref (pl (60 + 2 * j))), (2, .int (iI x)), (3, .int (iI e)), (4, .int (iI z)), (5, .int (iI (i + 1)))] [] _ _ _ _
      exact k1 h
    · skip
      show pm_E _ _ _ 80 [(0, .ref (pl 6)), (1, .ref (pl (60 + 2 * j))), (2, .int (iI x)), (3, .int (iI e)), (4, .int (iI z)), (5, .int (iI i))] [] _ _ _ _
      refine pm_e_inc (y := iI (i + 1)) pm_a70_80 rfl (iI_add _ _) (by decide +kernel) rfl ?_
      show pm_E _ _ _ 83 [(0, .ref (pl 6)), (1, .ref (pl (60 + 2 * j))), (2, .int (iI x)), (3, .int (iI e)), (4, .int (iI z)), (5, .int (iI (i + 1)))] [] _ _ _ _
      refine pm_e_goto pm_a70_83 rfl ?_
      show pm_E _ _ _ 61 [(0, .ref (pl 6)), (1, .ref (pl (60 + 2 * j))), (2, .int (iI x)), (3, .int (iI e)), (4, .int (iI z)), (5, .int (iI (i + 1)))] [] _ _ _ _
      exact k0 h
    · skip
      show pm_E _ _ _ 80 [(0, .ref (pl 6)), (1, .ref (pl (60 + 2 * j))), (2, .int (iI x)), (3, .int (iI e)), (4, .int (iI z)), (5, .int (iI i))] [] _ _ _ _
      refine pm_e_inc (y := iI (i + 1)) pm_a70_80 rfl (iI_add _ _) (by decide +kernel) rfl ?_
      show pm_E _ _ _ 83 [(0, .ref (pl 6)), (1, .ref (pl (60 + 2 * j))), (2, .int (iI x)), (3, .int (iI e)), (4, .int (iI z)), (5, .int (iI (i + 1)))] [] _ _ _ _
      refine pm_e_goto pm_a70_83 rfl ?_
      show pm_E _ _ _ 61 [(0, .ref (pl 6)), (1, .ref (pl (60 + 2 * j))), (2, .int (iI x)), (3, .int (iI e)), (4, .int (iI z)), (5, .int (iI (i + 1)))] [] _ _ _ _
      exact k2 h h2
theorem C_meas_f {d n : Nat} {kd pl : Nat → Nat} {s : Nat → Int} {a : Nat → Int → Int} {c : Nat → cdt} {M : List va_E} {Q : Option Value → List va_E → Nat → Nat → Prop} {j : Nat} {x e z : Int} {E : Int → Int} (hW : wf n kd pl) (hj : j < 38 ∧ al n kd pl (60 + 2 * j)) (hok : okx (rm j) (c j)) (hx0 : 0 ≤ x) (hz : z < 502) (hzc : z < (c j).1) (he : ∃ p q, en (c j).2.2 E p q ∧ p ≤ x ∧ z + 1 ≤ q) : ∀ (f : Nat) {k p q : Int}, tm (c j).2.2 f k p q → x ≤ p → q ≤ z + 1 → ∀ (D : Int → Int) (dd : Int), D p = dd → (∀ D' : Int → Int, dp (c j).2.2 D' f dd p q → (∀ r, r ≤ p ∨ q ≤ r → D' r = D r) → pm_E none (d + 2) pm_mm70 61 [(0, .ref (pl 6)), (1, .ref (pl (60 + 2 * j))), (2, .int (iI x)), (3, .int (iI e)), (4, .int (iI z)), (5, .int (iI q))] [] (ch n kd pl s (updA (updA a 1 E) 2 D') c M) 0 0 Q) → pm_E none (d + 2) pm_mm70 61 [(0, .ref (pl 6)), (1, .ref (pl (60 + 2 * j))), (2, .int (iI x)), (3, .int (iI e)), (4, .int (iI z)), (5, .int (iI p))] [] (ch n kd pl s (updA (updA a 1 E) 2 D) c M) 0 0 Q := by
  intro f
  obtain ⟨p0, q0, he, hp0, hq0⟩ := he
  induction f with
  | zero => intro k p q t; exact t.elim
  | succ f ih =>
    intro k p q t hxp hqz D dd hD kk
    have lt := tm_lt t
    rcases id t with ⟨h0, m, t1, t2⟩ | ⟨h0, t1⟩ | ⟨h0, h1, h2⟩
    · have l1 := tm_lt t1; have l2 := tm_lt t2
      obtain ⟨f1, k1, q1⟩ := he (p + 1) (by omega) (by omega)
      have e1 : E (p + 1) = m := tm_one q1 t1
      refine C_meas_f1 (a := updA (updA a 1 E) 2 D) hW hj hok hx0 hz hzc (by omega) (by omega) (fun _ => by omega) (fun _ => ?_) (fun h => by omega) (fun _ => ?_) (fun h h2 => absurd h0 h2)
      · show 0 ≤ E (p + 1) ∧ E (p + 1) < 502; omega
      · rw [updA_s]
        show pm_E none (d + 2) _ 61 _ [] (ch n kd pl s (updA (updA a 1 E) 2 (updI (updI D (p + 1) (D p)) (E (p + 1)) (D p))) c M) 0 0 Q
        rw [e1]
        refine ih t1 (by omega) (by omega) _ dd (by rw [updI_n _ _ (by omega), updI_s]; exact hD) (fun D1 a1 a2 => ?_)
        refine ih t2 (by omega) hqz D1 dd (by rw [a2 m (by omega), updI_s]; exact hD) (fun D2 b1 b2 => ?_)
        refine kk D2 ⟨?_, Or.inl ⟨h0, m, ?_, b1⟩⟩ (fun r hr => ?_)
        · rw [b2 p (by omega), a2 p (by omega), updI_n _ _ (by omega), updI_n _ _ (by omega)]; exact hD
        · exact dp_congr (D := D1) (fun r z y => b2 r (by omega)) a1
        · rw [b2 r (by omega), a2 r (by omega), updI_n _ _ (by omega), updI_n _ _ (by omega)]
    · have l1 := tm_lt t1
      refine C_meas_f1 (a := updA (updA a 1 E) 2 D) hW hj hok hx0 hz hzc (by omega) (by omega) (fun _ => by omega) (fun h => by omega) (fun _ => ?_) (fun h => by omega) (fun h _ => absurd h0 h)
      rw [updA_s]
      show pm_E none (d + 2) _ 61 _ [] (ch n kd pl s (updA (updA a 1 E) 2 (updI D (p + 1) (D p + 1))) c M) 0 0 Q
      refine ih t1 (by omega) hqz _ (dd + 1) (by rw [updI_s, hD]) (fun D1 a1 a2 => ?_)
      refine kk D1 ⟨?_, Or.inr (Or.inl ⟨h0, a1⟩)⟩ (fun r hr => ?_)
      · rw [a2 p (by omega), updI_n _ _ (by omega)]; exact hD
      · rw [a2 r (by omega), updI_n _ _ (by omega)]
    · refine C_meas_f1 (a := updA (updA a 1 E) 2 D) hW hj hok hx0 hz hzc (by omega) (by omega) (fun h => by omega) (fun h => by omega) (fun h => by omega) (fun h => by omega) (fun _ _ => ?_)
      show pm_E _ _ _ 61 [_, _, _, _, _, (5, .int (iI (p + 1)))] [] _ _ _ _
      rw [← h2]
      exact kk D ⟨hD, Or.inr (Or.inr ⟨h0, h2⟩)⟩ (fun r _ => rfl)
set_option maxHeartbeats 4000000 in
set_option maxRecDepth 100000 in
theorem C_measure {d n : Nat} {kd pl : Nat → Nat} {s : Nat → Int} {a : Nat → Int → Int} {c : Nat → cdt} {M : List va_E} {Q : Option Value → List va_E → Nat → Nat → Prop} {j : Nat} {x e k0 : Int} {f : Nat} {y : cdt} (hW : wf n kd pl) (hj : j < 38 ∧ al n kd pl (60 + 2 * j)) (hy : c j = y) (hok : okx (rm j) y) (hin : ∀ q, in32 (a 1 q)) (hx : 0 ≤ x) (he : e ≤ y.1) (ht : tm y.2.2 f k0 x e) (k : ∀ E D : Int → Int, en y.2.2 E x e → dp y.2.2 D f 0 x e → (∀ r, in32 (E r)) → Q none (ch n kd pl s (updA (updA a 1 E) 2 D) c M) 0 0) : pm_E none (d + 2) pm_mm70 0 [(0, .ref (pl 6)), (1, .ref (pl (60 + 2 * j))), (2, .int (iI x)), (3, .int (iI e))] [] (ch n kd pl s a c M) 0 0 Q := by
  subst hy
  have lt := tm_lt ht
  have rb9 := rm_b j
  have o29 := hok.2.1
  refine pm_e_sim pm_a70_0 rfl ?_
  show pm_E _ _ _ 1 [(0, .ref (pl 6)), (1, .ref (pl (60 + 2 * j))), (2, .int (iI x)), (3, .int (iI e))] [.int (iI e)] _ _ _ _
  refine pm_e_sim pm_a70_1 rfl ?_
  show pm_E _ _ _ 2 [(0, .ref (pl 6)), (1, .ref (pl (60 + 2 * j))), (2, .int (iI x)), (3, .int (iI e))] [.ref (pl 6), .int (iI e)] _ _ _ _
  refine pm_i_get pm_a70_2 rfl (cg_6 hW) rfl ?_
  show pm_E _ _ _ 5 [(0, .ref (pl 6)), (1, .ref (pl (60 + 2 * j))), (2, .int (iI x)), (3, .int (iI e))] [.ref (pl 7), .int (iI e)] _ _ _ _
  refine pm_i_aln pm_a70_5 (cg_7 hW) ?_
  show pm_E _ _ _ 6 [(0, .ref (pl 6)), (1, .ref (pl (60 + 2 * j))), (2, .int (iI x)), (3, .int (iI e))] [.int (iI 502), .int (iI e)] _ _ _ _
  refine pm_i_min pm_a70_6 rfl (Nat.le_of_ble_eq_true rfl) ⟨by omega, by omega⟩ ⟨by omega, by omega⟩ ?_
  show pm_E _ _ _ 9 [(0, .ref (pl 6)), (1, .ref (pl (60 + 2 * j))), (2, .int (iI x)), (3, .int (iI e))] [.int (iI (min e 502))] _ _ _ _
  refine pm_e_sim pm_a70_9 rfl ?_
  refine pm_e_top (y := iI 1) (by decide +kernel) ?_
  show pm_E _ _ _ 10 [(0, .ref (pl 6)), (1, .ref (pl (60 + 2 * j))), (2, .int (iI x)), (3, .int (iI e))] [.int (iI 1), .int (iI (min e 502))] _ _ _ _
  refine pm_e_sim pm_a70_10 rfl ?_
  refine pm_e_top (y := iI (min e 502 - 1)) (iI_sub _ _) ?_
  show pm_E _ _ _ 11 [(0, .ref (pl 6)), (1, .ref (pl (60 + 2 * j))), (2, .int (iI x)), (3, .int (iI e))] [.int (iI (min e 502 - 1))] _ _ _ _
  refine pm_e_sim pm_a70_11 rfl ?_
  show pm_E _ _ _ 13 [(0, .ref (pl 6)), (1, .ref (pl (60 + 2 * j))), (2, .int (iI x)), (3, .int (iI e)), (4, .int (iI (min e 502 - 1)))] [] _ _ _ _
  refine pm_e_sim pm_a70_13 rfl ?_
  show pm_E _ _ _ 15 [(0, .ref (pl 6)), (1, .ref (pl (60 + 2 * j))), (2, .int (iI x)), (3, .int (iI e)), (4, .int (iI (min e 502 - 1)))] [.int (iI (min e 502 - 1))] _ _ _ _
  refine pm_e_sim pm_a70_15 rfl ?_
  show pm_E _ _ _ 17 [(0, .ref (pl 6)), (1, .ref (pl (60 + 2 * j))), (2, .int (iI x)), (3, .int (iI e)), (4, .int (iI (min e 502 - 1))), (5, .int (iI (min e 502 - 1)))] [] _ _ _ _
  have rb := rm_b j
  obtain ⟨o1, o2, o3, o4⟩ := id hok
  have emin : min e 502 - 1 = e - 1 := by omega
  rw [emin]
  refine pm_e_heap (show ch n kd pl s a c M = ch n kd pl s (updA a 1 (a 1)) c M from by rw [updA_self]) ?_
  refine C_meas_b hW hj hok hx (by omega) (by omega) f ht (by omega) (by omega) (a 1) hin (fun E h1 h2 h3 => ?_)
  refine pm_e_sim pm_a70_17 rfl ?_
  show pm_E _ _ _ 19 [(0, .ref (pl 6)), (1, .ref (pl (60 + 2 * j))), (2, .int (iI x)), (3, .int (iI e)), (4, .int (iI (e - 1))), (5, .int (iI (x - 1)))] [.int (iI (x - 1))] _ _ _ _
  refine pm_e_sim pm_a70_19 rfl ?_
  show pm_E _ _ _ 20 [(0, .ref (pl 6)), (1, .ref (pl (60 + 2 * j))), (2, .int (iI x)), (3, .int (iI e)), (4, .int (iI (e - 1))), (5, .int (iI (x - 1)))] [.int (iI x), .int (iI (x - 1))] _ _ _ _
  refine pm_e_sim pm_a70_20 rfl ?_
  refine pm_e_top (y := iI 0) (by decide +kernel) ?_
  show pm_E _ _ _ 21 [(0, .ref (pl 6)), (1, .ref (pl (60 + 2 * j))), (2, .int (iI x)), (3, .int (iI e)), (4, .int (iI (e - 1))), (5, .int (iI (x - 1)))] [.int (iI 0), .int (iI x), .int (iI (x - 1))] _ _ _ _
  refine pm_i_max pm_a70_21 rfl (Nat.le_of_ble_eq_true rfl) ⟨by omega, by omega⟩ ⟨by omega, by omega⟩ ?_
  show pm_E _ _ _ 24 [(0, .ref (pl 6)), (1, .ref (pl (60 + 2 * j))), (2, .int (iI x)), (3, .int (iI e)), (4, .int (iI (e - 1))), (5, .int (iI (x - 1)))] [.int (iI (max x 0)), .int (iI (x - 1))] _ _ _ _
  refine pm_c_lt (t := 52) pm_a70_24 rfl ⟨by omega, by omega⟩ ⟨by omega, by omega⟩ (fun h_51 => ?_) (fun h_51 => ?_)
  · skip
    show pm_E _ _ _ 52 [(0, .ref (pl 6)), (1, .ref (pl (60 + 2 * j))), (2, .int (iI x)), (3, .int (iI e)), (4, .int (iI (e - 1))), (5, .int (iI (x - 1)))] [] _ _ _ _
    refine pm_e_sim pm_a70_52 rfl ?_
    show pm_E _ _ _ 53 [(0, .ref (pl 6)), (1, .ref (pl (60 + 2 * j))), (2, .int (iI x)), (3, .int (iI e)), (4, .int (iI (e - 1))), (5, .int (iI (x - 1)))] [.ref (pl 6)] _ _ _ _
    refine pm_e_sim pm_a70_53 rfl ?_
    show pm_E _ _ _ 54 [(0, .ref (pl 6)), (1, .ref (pl (60 + 2 * j))), (2, .int (iI x)), (3, .int (iI e)), (4, .int (iI (e - 1))), (5, .int (iI (x - 1)))] [.int (iI x), .ref (pl 6)] _ _ _ _
    refine pm_e_sim pm_a70_54 rfl ?_
    refine pm_e_top (y := iI 0) (by decide +kernel) ?_
    show pm_E _ _ _ 55 [(0, .ref (pl 6)), (1, .ref (pl (60 + 2 * j))), (2, .int (iI x)), (3, .int (iI e)), (4, .int (iI (e - 1))), (5, .int (iI (x - 1)))] [.int (iI 0), .int (iI x), .ref (pl 6)] _ _ _ _
    refine pm_i_callv (k := (pl 6)) (T2 := pm_mm73) pm_a70_55 rfl rfl rfl (cg_6 hW) ⟨Nat.le_of_ble_eq_true rfl, Nat.le_of_ble_eq_true rfl, rfl, by decide +kernel⟩ ?_
    show pm_E none _ _ 0 [(0, .ref (pl 6)), (1, .int (iI x)), (2, .int (iI 0))] [] _ _ _ _
    refine C_putDepth hW ⟨by omega, by omega⟩ (fun _ _ => ?_) (fun hq => by exfalso; omega)
    show pm_E _ _ _ 58 [(0, .ref (pl 6)), (1, .ref (pl (60 + 2 * j))), (2, .int (iI x)), (3, .int (iI e)), (4, .int (iI (e - 1))), (5, .int (iI (x - 1)))] [] _ _ _ _
    refine pm_e_sim pm_a70_58 rfl ?_
    show pm_E _ _ _ 59 [(0, .ref (pl 6)), (1, .ref (pl (60 + 2 * j))), (2, .int (iI x)), (3, .int (iI e)), (4, .int (iI (e - 1))), (5, .int (iI (x - 1)))] [.int (iI x)] _ _ _ _
    refine pm_e_sim pm_a70_59 rfl ?_
    show pm_E _ _ _ 61 [(0, .ref (pl 6)), (1, .ref (pl (60 + 2 * j))), (2, .int (iI x)), (3, .int (iI e)), (4, .int (iI (e - 1))), (5, .int (iI x))] [] _ _ _ _
    show pm_E none (d + 2) _ 61 _ [] (ch n kd pl s (updA (updA a 1 E) 2 (updI (a 2) x 0)) c M) _ _ Q
    refine C_meas_f hW hj hok hx (by omega) (by omega) ⟨x, e, h1, by omega, by omega⟩ f ht (by omega) (by omega) (updI (a 2) x 0) 0 (by rw [updI_s]) (fun D d1 d2 => ?_)
    refine pm_e_sim pm_a70_61 rfl ?_
    show pm_E _ _ _ 63 [(0, .ref (pl 6)), (1, .ref (pl (60 + 2 * j))), (2, .int (iI x)), (3, .int (iI e)), (4, .int (iI (e - 1))), (5, .int (iI e))] [.int (iI e)] _ _ _ _
    refine pm_e_sim pm_a70_63 rfl ?_
    show pm_E _ _ _ 65 [(0, .ref (pl 6)), (1, .ref (pl (60 + 2 * j))), (2, .int (iI x)), (3, .int (iI e)), (4, .int (iI (e - 1))), (5, .int (iI e))] [.int (iI (e - 1)), .int (iI e)] _ _ _ _
    refine pm_c_gt (t := 86) pm_a70_65 rfl ⟨by omega, by omega⟩ ⟨by omega, by omega⟩ (fun h_91 => ?_) (fun h_91 => ?_)
    · skip
      show pm_E _ _ _ 86 [(0, .ref (pl 6)), (1, .ref (pl (60 + 2 * j))), (2, .int (iI x)), (3, .int (iI e)), (4, .int (iI (e - 1))), (5, .int (iI e))] [] _ _ _ _
      refine pm_e_ret pm_a70_86 rfl rfl rfl rfl rfl rfl rfl rfl ?_
      exact k E D h1 d1 h3
    · skip
      exfalso; omega
  · skip
    exfalso; omega
