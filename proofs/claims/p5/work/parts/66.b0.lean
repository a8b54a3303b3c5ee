/-! THE CLASS: readInto, term, letter -/
set_option maxHeartbeats 4000000 in
set_option maxRecDepth 100000 in
theorem C_r_takeTokens {d n : Nat} {kd pl : Nat → Nat} {s : Nat → Int} {a : Nat → Int → Int} {c : Nat → cdt} {M : List va_E} {Q : Option Value → List va_E → Nat → Nat → Prop} (hW : wf n kd pl) (h4 : 0 ≤ s 4) (h4' : s 4 ≤ 600) (hb : ∀ j, 0 ≤ a 0 j ∧ a 0 j ≤ 255) (hin : ∀ i j, in32 (a i j)) (h12 : s 12 = 0) (h13 : s 13 = 0) (h11 : s 11 = 0) (hCR : CR (a 0) (s 4) S00 [] 0 s a) (k : ∀ s' a', rdG s a s' a' → RES (prN (a 0) (s 4) S00 0) s' a' → Q none (ch n kd pl s' a' c M) 0 0) : pm_E none (d + 5) pm_mm17 0 [(0, .ref (pl 9))] [] (ch n kd pl s a c M) 0 0 Q := by
  refine pm_e_sim pm_a17_0 rfl ?_
  show pm_E _ _ _ 1 [(0, .ref (pl 9))] [.ref (pl 9)] _ _ _ _
  refine pm_e_sim pm_a17_1 rfl ?_
  refine pm_e_top (y := iI 4) (by decide +kernel) ?_
  show pm_E _ _ _ 2 [(0, .ref (pl 9))] [.int (iI 4), .ref (pl 9)] _ _ _ _
  refine pm_i_put pm_a17_2 rfl (cg_9 hW) rfl (Nat.le_of_ble_eq_true rfl) (Or.inl rfl) (cw_9 hW 4) ?_
  show pm_E _ _ _ 5 [(0, .ref (pl 9))] [] _ _ _ _
  refine pm_e_sim pm_a17_5 rfl ?_
  refine pm_e_top (y := iI 0) (by decide +kernel) ?_
  show pm_E _ _ _ 6 [(0, .ref (pl 9))] [.int (iI 0)] _ _ _ _
  refine pm_e_sim pm_a17_6 rfl ?_
  show pm_E _ _ _ 7 [(0, .ref (pl 9)), (1, .int (iI 0))] [] _ _ _ _
  refine C_r_tt_l (b := a 0) (N := s 4) hW hb h4' 602 S00 [] (updS s 9 4) a 0 rfl rfl hin (by show (1 : Int) ≤ 4; decide) (by show (4 : Int) ≤ 4; decide) h12 h13 (by show 0 ≤ s 11; omega) (by show s 11 ≤ s 4; omega) ?_ (by omega) (by show 0 ≤ s 11; omega) (fun s' a' G R => ?_) (by show s 4 - s 11 < ((602 : Nat) : Int); omega)
  · show CR (a 0) (s 4) S00 [] (s 11) (updS s 9 4) a
    rw [h11]
    exact CR_s hCR rfl rfl rfl rfl
  · have R' : RES (prN (a 0) (s 4) S00 (s 11)) s' a' := R
    rw [h11] at R'
    exact k s' a' ⟨fun j hj => (G.1 j hj).trans (updS_o (by omega)), G.2⟩ R'
set_option maxHeartbeats 4000000 in
set_option maxRecDepth 100000 in
theorem C_r_readInto {d n : Nat} {kd pl : Nat → Nat} {s : Nat → Int} {a : Nat → Int → Int} {c : Nat → cdt} {M : List va_E} {Q : Option Value → List va_E → Nat → Nat → Prop} {j : Nat} (hW : wf n kd pl) (hj : j < 38 ∧ al n kd pl (60 + 2 * j)) (hrm : rm j = 500) (h4 : 0 ≤ s 4) (h4' : s 4 ≤ 600) (hb : ∀ j, 0 ≤ a 0 j ∧ a 0 j ≤ 255) (hin : ∀ i j, in32 (a i j)) (hmd : md (c j) (rm j) []) (k : ∀ s' a' y r, rdG s a s' a' → okx (rm j) y → (0 ≤ r ∧ r ≤ 5) → ((r ≠ 0 ∧ prT (a 0) (s 4) = .inl (r, s' 13)) ∨ (r = 0 ∧ ∃ l, prT (a 0) (s 4) = .inr l ∧ md y (rm j) l)) → Q (some (.int (iI r))) (ch n kd pl s' a' (updC c j y) M) 0 0) : pm_E none (d + 6) pm_mm14 0 [(0, .ref (pl 9)), (1, .ref (pl (60 + 2 * j)))] [] (ch n kd pl s a c M) 0 0 Q := by
  refine pm_e_sim pm_a14_0 rfl ?_
  show pm_E _ _ _ 1 [(0, .ref (pl 9)), (1, .ref (pl (60 + 2 * j)))] [.ref (pl 9)] _ _ _ _
  refine pm_e_sim pm_a14_1 rfl ?_
  refine pm_e_top (y := iI 0) (by decide +kernel) ?_
  show pm_E _ _ _ 2 [(0, .ref (pl 9)), (1, .ref (pl (60 + 2 * j)))] [.int (iI 0), .ref (pl 9)] _ _ _ _
  refine pm_i_put pm_a14_2 rfl (cg_9 hW) rfl (Nat.le_of_ble_eq_true rfl) (Or.inl rfl) (cw_5 hW 0) ?_
  show pm_E _ _ _ 5 [(0, .ref (pl 9)), (1, .ref (pl (60 + 2 * j)))] [] _ _ _ _
  refine pm_e_sim pm_a14_5 rfl ?_
  show pm_E _ _ _ 6 [(0, .ref (pl 9)), (1, .ref (pl (60 + 2 * j)))] [.ref (pl 9)] _ _ _ _
  refine pm_e_sim pm_a14_6 rfl ?_
  refine pm_e_top (y := iI 0) (by decide +kernel) ?_
  show pm_E _ _ _ 7 [(0, .ref (pl 9)), (1, .ref (pl (60 + 2 * j)))] [.int (iI 0), .ref (pl 9)] _ _ _ _
  refine pm_i_put pm_a14_7 rfl (cg_9 hW) rfl (Nat.le_of_ble_eq_true rfl) (Or.inl rfl) (cw_7 hW 0) ?_
  show pm_E _ _ _ 10 [(0, .ref (pl 9)), (1, .ref (pl (60 + 2 * j)))] [] _ _ _ _
  refine pm_e_sim pm_a14_10 rfl ?_
  show pm_E _ _ _ 11 [(0, .ref (pl 9)), (1, .ref (pl (60 + 2 * j)))] [.ref (pl 9)] _ _ _ _
  refine pm_e_sim pm_a14_11 rfl ?_
  refine pm_e_top (y := iI 0) (by decide +kernel) ?_
  show pm_E _ _ _ 12 [(0, .ref (pl 9)), (1, .ref (pl (60 + 2 * j)))] [.int (iI 0), .ref (pl 9)] _ _ _ _
  refine pm_i_put pm_a14_12 rfl (cg_9 hW) rfl (Nat.le_of_ble_eq_true rfl) (Or.inl rfl) (cw_8 hW 0) ?_
  show pm_E _ _ _ 15 [(0, .ref (pl 9)), (1, .ref (pl (60 + 2 * j)))] [] _ _ _ _
  refine pm_e_sim pm_a14_15 rfl ?_
  show pm_E _ _ _ 16 [(0, .ref (pl 9)), (1, .ref (pl (60 + 2 * j)))] [.ref (pl 9)] _ _ _ _
  refine pm_e_sim pm_a14_16 rfl ?_
  refine pm_e_top (y := iI 0) (by decide +kernel) ?_
  show pm_E _ _ _ 17 [(0, .ref (pl 9)), (1, .ref (pl (60 + 2 * j)))] [.int (iI 0), .ref (pl 9)] _ _ _ _
  refine pm_i_put pm_a14_17 rfl (cg_9 hW) rfl (Nat.le_of_ble_eq_true rfl) (Or.inl rfl) (cw_11 hW 0) ?_
  show pm_E _ _ _ 20 [(0, .ref (pl 9)), (1, .ref (pl (60 + 2 * j)))] [] _ _ _ _
  refine pm_e_sim pm_a14_20 rfl ?_
  show pm_E _ _ _ 21 [(0, .ref (pl 9)), (1, .ref (pl (60 + 2 * j)))] [.ref (pl 9)] _ _ _ _
  refine pm_e_sim pm_a14_21 rfl ?_
  refine pm_e_top (y := iI 0) (by decide +kernel) ?_
  show pm_E _ _ _ 22 [(0, .ref (pl 9)), (1, .ref (pl (60 + 2 * j)))] [.int (iI 0), .ref (pl 9)] _ _ _ _
  refine pm_i_put pm_a14_22 rfl (cg_9 hW) rfl (Nat.le_of_ble_eq_true rfl) (Or.inl rfl) (cw_12 hW 0) ?_
  show pm_E _ _ _ 25 [(0, .ref (pl 9)), (1, .ref (pl (60 + 2 * j)))] [] _ _ _ _
  refine pm_e_sim pm_a14_25 rfl ?_
  show pm_E _ _ _ 26 [(0, .ref (pl 9)), (1, .ref (pl (60 + 2 * j)))] [.ref (pl 9)] _ _ _ _
  refine pm_e_sim pm_a14_26 rfl ?_
  refine pm_e_top (y := iI 0) (by decide +kernel) ?_
  show pm_E _ _ _ 27 [(0, .ref (pl 9)), (1, .ref (pl (60 + 2 * j)))] [.int (iI 0), .ref (pl 9)] _ _ _ _
  refine pm_i_put pm_a14_27 rfl (cg_9 hW) rfl (Nat.le_of_ble_eq_true rfl) (Or.inl rfl) (cw_13 hW 0) ?_
  show pm_E _ _ _ 30 [(0, .ref (pl 9)), (1, .ref (pl (60 + 2 * j)))] [] _ _ _ _
  refine pm_e_sim pm_a14_30 rfl ?_
  show pm_E _ _ _ 31 [(0, .ref (pl 9)), (1, .ref (pl (60 + 2 * j)))] [.ref (pl 9)] _ _ _ _
  refine pm_i_callv (k := (pl 9)) (T2 := pm_mm15) pm_a14_31 rfl rfl rfl (cg_9 hW) ⟨Nat.le_of_ble_eq_true rfl, Nat.le_of_ble_eq_true rfl, rfl, by decide +kernel⟩ ?_
  show pm_E none _ _ 0 [(0, .ref (pl 9))] [] _ _ _ _
  refine C_r_startRow hW (by show (0 : Int) ≤ 0; decide) (by show (0 : Int) < 601; decide) (fun s1 a1 f1 l1 g1 p1 q1 => ?_)
  have G1 : rdG s a s1 a1 := ⟨fun j hj => (g1 j (by omega) (by omega)).trans (by simp only [updS]; rw [if_neg (by omega), if_neg (by omega), if_neg (by omega), if_neg (by omega), if_neg (by omega), if_neg (by omega)]), fun j n3 _ _ => q1 j n3⟩
  have e4 : s1 4 = s 4 := G1.1 4 (by omega)
  have e0 : a1 0 = a 0 := q1 0 (by decide)
  have e5 : s1 5 = 1 := f1
  have e6 : s1 6 = 0 := l1
  have e7 : s1 7 = 0 := g1 7 (by decide) (by decide)
  have e8 : s1 8 = 0 := g1 8 (by decide) (by decide)
  have e11 : s1 11 = 0 := g1 11 (by decide) (by decide)
  have e12 : s1 12 = 0 := g1 12 (by decide) (by decide)
  have e13 : s1 13 = 0 := g1 13 (by decide) (by decide)
  have p1' : a1 3 = updI (a 3) 0 0 := p1
  have hin1 : ∀ i j, in32 (a1 i j) := in_rows hin (fun j => by rw [p1']; exact in_upd (hin 3) (by decide) j) (fun j => by rw [q1 4 (by decide)]; exact hin 4 j) (fun j => by rw [q1 5 (by decide)]; exact hin 5 j) (fun j n3 _ _ => q1 j n3)
  have hC1 : CR (a1 0) (s1 4) S00 [] 0 s1 a1 := by
    refine ⟨⟨e5, ?_⟩, e6, ⟨e7, rfl⟩, e8, ⟨fun z => absurd (show (-1 : Int) = 0 from z) (by decide), trivial⟩, ⟨rfl, fun p hp => absurd hp List.not_mem_nil⟩, Or.inl ⟨rfl, rfl⟩, ⟨Int.le_refl 0, fun _ => rfl, fun z => absurd (show (0 : Int) = 2 from z) (by decide), Int.le_refl 0, (by decide : (0 : Int) ≤ 2)⟩, (by decide : (1 : Int) ≤ 1 + 0), ?_, by omega⟩
    · rw [p1']; rfl
    · intro v hv; have hv' : v = 0 := List.mem_singleton.mp hv; omega
  show pm_E _ _ _ 34 [(0, .ref (pl 9)), (1, .ref (pl (60 + 2 * j)))] [] _ _ _ _
  refine pm_e_sim pm_a14_34 rfl ?_
  show pm_E _ _ _ 35 [(0, .ref (pl 9)), (1, .ref (pl (60 + 2 * j)))] [.ref (pl 9)] _ _ _ _
  refine pm_i_callv (k := (pl 9)) (T2 := pm_mm17) pm_a14_35 rfl rfl rfl (cg_9 hW) ⟨Nat.le_of_ble_eq_true rfl, Nat.le_of_ble_eq_true rfl, rfl, by decide +kernel⟩ ?_
  show pm_E none _ _ 0 [(0, .ref (pl 9))] [] _ _ _ _
  refine C_r_takeTokens hW (by omega) (by omega) (by rw [e0]; exact hb) hin1 e12 e13 e11 hC1 (fun s2 a2 G2 R2 => ?_)
  have G3 := rdG_t G1 G2
  rw [e0, e4] at R2
  rcases R2 with ⟨r1, r2, r3⟩ | ⟨r1, t, r3, r4, r5, r6, r7, r8⟩
  · skip
    show pm_E _ _ _ 38 [(0, .ref (pl 9)), (1, .ref (pl (60 + 2 * j)))] [] _ _ _ _
    refine pm_e_sim pm_a14_38 rfl ?_
    show pm_E _ _ _ 39 [(0, .ref (pl 9)), (1, .ref (pl (60 + 2 * j)))] [.ref (pl 9)] _ _ _ _
    refine pm_i_get pm_a14_39 rfl (cg_9 hW) rfl ?_
    show pm_E _ _ _ 42 [(0, .ref (pl 9)), (1, .ref (pl (60 + 2 * j)))] [.int (iI (s2 12))] _ _ _ _
    refine pm_i_ne (t := 50) pm_a14_42 rfl ⟨by omega, by omega⟩ (fun h_1 => ?_) (fun h_1 => ?_)
    · skip
      show pm_E _ _ _ 50 [(0, .ref (pl 9)), (1, .ref (pl (60 + 2 * j)))] [] _ _ _ _
      refine pm_e_sim pm_a14_50 rfl ?_
      show pm_E _ _ _ 51 [(0, .ref (pl 9)), (1, .ref (pl (60 + 2 * j)))] [.ref (pl 9)] _ _ _ _
      refine pm_i_get pm_a14_51 rfl (cg_9 hW) rfl ?_
      show pm_E _ _ _ 54 [(0, .ref (pl 9)), (1, .ref (pl (60 + 2 * j)))] [.int (iI (s2 12))] _ _ _ _
      refine pm_e_ret pm_a14_54 rfl rfl rfl rfl rfl rfl rfl rfl ?_
      have e9 := k s2 a2 (c j) (s2 12) G3 hmd.1 ⟨by omega, by omega⟩ (Or.inl ⟨by omega, by unfold prT; rw [r3]⟩)
      rw [updC_self] at e9
      exact e9
    · skip
      exfalso; omega
  · skip
    show pm_E _ _ _ 38 [(0, .ref (pl 9)), (1, .ref (pl (60 + 2 * j)))] [] _ _ _ _
    refine pm_e_sim pm_a14_38 rfl ?_
    show pm_E _ _ _ 39 [(0, .ref (pl 9)), (1, .ref (pl (60 + 2 * j)))] [.ref (pl 9)] _ _ _ _
    refine pm_i_get pm_a14_39 rfl (cg_9 hW) rfl ?_
    show pm_E _ _ _ 42 [(0, .ref (pl 9)), (1, .ref (pl (60 + 2 * j)))] [.int (iI (s2 12))] _ _ _ _
    refine pm_i_ne (t := 50) pm_a14_42 rfl ⟨by omega, by omega⟩ (fun h_2 => ?_) (fun h_2 => ?_)
    · skip
      exfalso; omega
    · skip
      show pm_E _ _ _ 45 [(0, .ref (pl 9)), (1, .ref (pl (60 + 2 * j)))] [] _ _ _ _
      refine pm_e_sim pm_a14_45 rfl ?_
      show pm_E _ _ _ 46 [(0, .ref (pl 9)), (1, .ref (pl (60 + 2 * j)))] [.ref (pl 9)] _ _ _ _
      refine pm_e_sim pm_a14_46 rfl ?_
      show pm_E _ _ _ 47 [(0, .ref (pl 9)), (1, .ref (pl (60 + 2 * j)))] [.ref (pl (60 + 2 * j)), .ref (pl 9)] _ _ _ _
      refine pm_i_callv (k := (pl 9)) (T2 := pm_mm38) pm_a14_47 rfl rfl rfl (cg_9 hW) ⟨Nat.le_of_ble_eq_true rfl, Nat.le_of_ble_eq_true rfl, rfl, by decide +kernel⟩ ?_
      show pm_E none _ _ 0 [(0, .ref (pl 9)), (1, .ref (pl (60 + 2 * j)))] [] _ _ _ _
      have eT : prT (a 0) (s 4) = (if (exs t).length ≤ 500 then .inr (exs t) else .inl (5, 0)) := by unfold prT; rw [r3]
      refine C_r_putItems (t := t) hW hj r4 r6 r5 r8 r7 hmd (fun y y1 y2 => ?_) (fun z y s3 y1 y2 y3 => ?_)
      · skip
        show pm_E _ _ _ 50 [(0, .ref (pl 9)), (1, .ref (pl (60 + 2 * j)))] [] _ _ _ _
        refine pm_e_sim pm_a14_50 rfl ?_
        show pm_E _ _ _ 51 [(0, .ref (pl 9)), (1, .ref (pl (60 + 2 * j)))] [.ref (pl 9)] _ _ _ _
        refine pm_i_get pm_a14_51 rfl (cg_9 hW) rfl ?_
        show pm_E _ _ _ 54 [(0, .ref (pl 9)), (1, .ref (pl (60 + 2 * j)))] [.int (iI (s2 12))] _ _ _ _
        refine pm_e_ret pm_a14_54 rfl rfl rfl rfl rfl rfl rfl rfl ?_
        have y3 : (exs t).length ≤ 500 := by
          rcases y1.2 with ⟨z, _⟩ | ⟨_, z⟩
          · omega
          · omega
        exact k s2 a2 y (s2 12) G3 y1.1 ⟨by omega, by omega⟩ (Or.inr ⟨r1.1, exs t, by rw [eT, if_pos y3], y1⟩)
      · skip
        show pm_E _ _ _ 50 [(0, .ref (pl 9)), (1, .ref (pl (60 + 2 * j)))] [] _ _ _ _
        refine pm_e_sim pm_a14_50 rfl ?_
        show pm_E _ _ _ 51 [(0, .ref (pl 9)), (1, .ref (pl (60 + 2 * j)))] [.ref (pl 9)] _ _ _ _
        refine pm_i_get pm_a14_51 rfl (cg_9 hW) rfl ?_
        show pm_E _ _ _ 54 [(0, .ref (pl 9)), (1, .ref (pl (60 + 2 * j)))] [.int (iI (s3 12))] _ _ _ _
        refine pm_e_ret pm_a14_54 rfl rfl rfl rfl rfl rfl rfl rfl ?_
        exact k s3 a2 y (s3 12) ⟨fun j hj => (y3 j (by omega)).trans (G3.1 j hj), G3.2⟩ y1 ⟨by omega, by omega⟩ (Or.inl ⟨by omega, by rw [eT, if_neg (by omega), y2, y3 13 (by decide), r1.2]⟩)
set_option maxHeartbeats 4000000 in
set_option maxRecDepth 100000 in
theorem C_term_t {d n : Nat} {kd pl : Nat → Nat} {s : Nat → Int} {a : Nat → Int → Int} {c : Nat → cdt} {M : List va_E} {Q : Option Value → List va_E → Nat → Nat → Prop} {nc ns : Nat} {m : Nat} (hW : wf n kd pl) (hm : m < 38 ∧ al n kd pl (60 + 2 * m)) (hrm : rm m = 500) (h4 : 0 ≤ s 4) (h4' : s 4 ≤ 600) (hb : ∀ j, 0 ≤ a 0 j ∧ a 0 j ≤ 255) (hin : ∀ i j, in32 (a i j)) (hmd : md (c m) (rm m) []) (k : ∀ l y s' a', prT (a 0) (s 4) = .inr l → md y (rm m) l → s' 1 = 0 → s' 0 = s 0 + 1 → s' 4 = 0 → (∀ i, (i = 2 ∨ i = 3 ∨ 13 < i) → s' i = s i) → (∀ i, i ≠ 3 → i ≠ 4 → i ≠ 5 → a' i = a i) → Q (some (.int (iI (s 0)))) (ch n kd pl s' a' (updC c m y) M) nc ns) (k0 : ∀ e p y s' a', prT (a 0) (s 4) = .inl (e, p) → okx (rm m) y → e ≠ 0 → s' 1 = e → s' 0 = s 0 → s' 4 = 0 → (∀ i, (i = 2 ∨ i = 3 ∨ 13 < i) → s' i = s i) → (∀ i, i ≠ 3 → i ≠ 4 → i ≠ 5 → a' i = a i) → Q (some (.int (iI (-10 - p)))) (ch n kd pl s' a' (updC c m y) M) nc ns) : pm_E none (d + 7) pm_mm11 12 [(0, .ref (pl 0)), (1, .ref (pl (60 + 2 * m)))] [] (ch n kd pl s a c M) nc ns Q := by
  refine pm_e_sim pm_a11_12 rfl ?_
  show pm_E _ _ _ 13 [(0, .ref (pl 0)), (1, .ref (pl (60 + 2 * m)))] [.ref (pl 0)] _ _ _ _
  refine pm_e_sim pm_a11_13 rfl ?_
  show pm_E _ _ _ 14 [(0, .ref (pl 0)), (1, .ref (pl (60 + 2 * m)))] [.ref (pl 0), .ref (pl 0)] _ _ _ _
  refine pm_i_get pm_a11_14 rfl (cg_0 hW) rfl ?_
  show pm_E _ _ _ 17 [(0, .ref (pl 0)), (1, .ref (pl (60 + 2 * m)))] [.ref (pl 9), .ref (pl 0)] _ _ _ _
  refine pm_e_sim pm_a11_17 rfl ?_
  show pm_E _ _ _ 18 [(0, .ref (pl 0)), (1, .ref (pl (60 + 2 * m)))] [.ref (pl (60 + 2 * m)), .ref (pl 9), .ref (pl 0)] _ _ _ _
  refine pm_i_callv (k := (pl 9)) (T2 := pm_mm14) pm_a11_18 rfl rfl rfl (cg_9 hW) ⟨Nat.le_of_ble_eq_true rfl, Nat.le_of_ble_eq_true rfl, rfl, by decide +kernel⟩ ?_
  show pm_E none _ _ 0 [(0, .ref (pl 9)), (1, .ref (pl (60 + 2 * m)))] [] _ _ _ _
  refine C_r_readInto hW hm hrm h4 h4' hb hin hmd (fun s1 a1 y1 r1 G1 o1 z1 x1 => ?_)
  obtain ⟨_, _⟩ := z1
  show pm_E _ _ _ 21 [(0, .ref (pl 0)), (1, .ref (pl (60 + 2 * m)))] [.int (iI r1), .ref (pl 0)] _ _ _ _
  refine pm_i_put pm_a11_21 rfl (cg_0 hW) rfl (Nat.le_of_ble_eq_true rfl) (Or.inl rfl) (cw_1 hW r1) ?_
  show pm_E _ _ _ 24 [(0, .ref (pl 0)), (1, .ref (pl (60 + 2 * m)))] [] _ _ _ _
  refine pm_e_sim pm_a11_24 rfl ?_
  show pm_E _ _ _ 25 [(0, .ref (pl 0)), (1, .ref (pl (60 + 2 * m)))] [.ref (pl 0)] _ _ _ _
  refine pm_i_get pm_a11_25 rfl (cg_0 hW) rfl ?_
  show pm_E _ _ _ 28 [(0, .ref (pl 0)), (1, .ref (pl (60 + 2 * m)))] [.ref (pl 1)] _ _ _ _
  refine pm_e_sim pm_a11_28 rfl ?_
  refine pm_e_top (y := iI 0) (by decide +kernel) ?_
  show pm_E _ _ _ 29 [(0, .ref (pl 0)), (1, .ref (pl (60 + 2 * m)))] [.int (iI 0), .ref (pl 1)] _ _ _ _
  refine pm_i_put pm_a11_29 rfl (cg_1 hW) rfl (Nat.le_of_ble_eq_true rfl) (Or.inr rfl) (cw_4 hW 0) ?_
  show pm_E _ _ _ 32 [(0, .ref (pl 0)), (1, .ref (pl (60 + 2 * m)))] [] _ _ _ _
  refine pm_e_sim pm_a11_32 rfl ?_
  show pm_E _ _ _ 33 [(0, .ref (pl 0)), (1, .ref (pl (60 + 2 * m)))] [.ref (pl 0)] _ _ _ _
  refine pm_i_get pm_a11_33 rfl (cg_0 hW) rfl ?_
  show pm_E _ _ _ 36 [(0, .ref (pl 0)), (1, .ref (pl (60 + 2 * m)))] [.int (iI r1)] _ _ _ _
  refine pm_i_ne (t := 46) pm_a11_36 rfl ⟨by omega, by omega⟩ (fun h_1 => ?_) (fun h_1 => ?_)
  · skip
    show pm_E _ _ _ 46 [(0, .ref (pl 0)), (1, .ref (pl (60 + 2 * m)))] [] _ _ _ _
    refine pm_e_sim pm_a11_46 rfl ?_
    refine pm_e_top (y := iI (-10)) (by decide +kernel) ?_
    show pm_E _ _ _ 48 [(0, .ref (pl 0)), (1, .ref (pl (60 + 2 * m)))] [.int (iI (-10))] _ _ _ _
    refine pm_e_sim pm_a11_48 rfl ?_
    show pm_E _ _ _ 49 [(0, .ref (pl 0)), (1, .ref (pl (60 + 2 * m)))] [.ref (pl 0), .int (iI (-10))] _ _ _ _
    refine pm_i_get pm_a11_49 rfl (cg_0 hW) rfl ?_
    show pm_E _ _ _ 52 [(0, .ref (pl 0)), (1, .ref (pl (60 + 2 * m)))] [.ref (pl 9), .int (iI (-10))] _ _ _ _
    refine pm_i_get pm_a11_52 rfl (cg_9 hW) rfl ?_
    show pm_E _ _ _ 55 [(0, .ref (pl 0)), (1, .ref (pl (60 + 2 * m)))] [.int (iI (s1 13)), .int (iI (-10))] _ _ _ _
    refine pm_e_sim pm_a11_55 rfl ?_
    refine pm_e_top (y := iI ((-10) - (s1 13))) (iI_sub _ _) ?_
    show pm_E _ _ _ 56 [(0, .ref (pl 0)), (1, .ref (pl (60 + 2 * m)))] [.int (iI ((-10) - (s1 13)))] _ _ _ _
    refine pm_e_ret pm_a11_56 rfl rfl rfl rfl rfl rfl rfl rfl ?_
    rcases x1 with ⟨x1, x2⟩ | ⟨x1, l, x2, x3⟩
    · exact k0 _ _ y1 _ a1 x2 o1 x1 rfl (by show s1 0 = s 0; exact G1.1 0 (by omega)) rfl (fun i hi => by simp only [updS]; rw [if_neg (by omega), if_neg (by omega)]; exact G1.1 i (by omega)) G1.2
    · exfalso; omega
  · skip
    show pm_E _ _ _ 39 [(0, .ref (pl 0)), (1, .ref (pl (60 + 2 * m)))] [] _ _ _ _
    refine pm_e_sim pm_a11_39 rfl ?_
    show pm_E _ _ _ 40 [(0, .ref (pl 0)), (1, .ref (pl (60 + 2 * m)))] [.ref (pl 0)] _ _ _ _
    refine pm_i_callv (k := (pl 0)) (T2 := pm_mm42) pm_a11_40 rfl rfl rfl (cg_0 hW) ⟨Nat.le_of_ble_eq_true rfl, Nat.le_of_ble_eq_true rfl, rfl, by decide +kernel⟩ ?_
    show pm_E none _ _ 0 [(0, .ref (pl 0))] [] _ _ _ _
    refine C_keepFresh hW ?_
    show pm_E _ _ _ 43 [(0, .ref (pl 0)), (1, .ref (pl (60 + 2 * m)))] [.int (iI (s1 0))] _ _ _ _
    refine pm_e_goto pm_a11_43 rfl ?_
    show pm_E _ _ _ 56 [(0, .ref (pl 0)), (1, .ref (pl (60 + 2 * m)))] [.int (iI (s1 0))] _ _ _ _
    refine pm_e_ret pm_a11_56 rfl rfl rfl rfl rfl rfl rfl rfl ?_
    rcases x1 with ⟨x1, x2⟩ | ⟨x1, l, x2, x3⟩
    · exfalso; omega
    have g0 : s1 0 = s 0 := G1.1 0 (by omega)
    have e9 := k l y1 (updS (updS (updS s1 1 r1) 4 0) 0 (s1 0 + 1)) a1 x2 x3 (show r1 = 0 from x1) (by show s1 0 + 1 = s 0 + 1; omega) rfl (fun i hi => by simp only [updS]; rw [if_neg (by omega), if_neg (by omega), if_neg (by omega)]; exact G1.1 i (by omega)) G1.2
    rw [← g0] at e9
    exact e9
set_option maxHeartbeats 4000000 in
set_option maxRecDepth 100000 in
theorem C_term {d n : Nat} {kd pl : Nat → Nat} {s : Nat → Int} {a : Nat → Int → Int} {c : Nat → cdt} {M : List va_E} {Q : Option Value → List va_E → Nat → Nat → Prop} (hW : wf n kd pl) (h0 : 0 ≤ s 0) (h1 : s 0 ≤ 32) (h4 : 0 ≤ s 4) (h4' : s 4 ≤ 600) (hb : ∀ j, 0 ≤ a 0 j ∧ a 0 j ≤ 255) (hin : ∀ i j, in32 (a i j)) (hf : s 0 < 32 → (al n kd pl (60 + 2 * (6 + (s 0).toNat)) ∧ okx (rm (6 + (s 0).toNat)) (c (6 + (s 0).toNat))) ∨ (pl (60 + 2 * (6 + (s 0).toNat)) = 0 ∧ pl (61 + 2 * (6 + (s 0).toNat)) = 0)) (kf : s 0 = 32 → Q (some (.int (iI (-3)))) (ch n kd pl s a c M) 0 0) (k : ∀ l, prT (a 0) (s 4) = .inr l → s 0 < 32 → ∀ n' kd' pl' y nc ns s' a', grx (6 + (s 0).toNat) n kd pl n' kd' pl' → nc ≤ 2 → ns ≤ 503 → al n' kd' pl' (60 + 2 * (6 + (s 0).toNat)) → md y (rm (6 + (s 0).toNat)) l → s' 1 = 0 → s' 0 = s 0 + 1 → s' 4 = 0 → (∀ i, (i = 2 ∨ i = 3 ∨ 13 < i) → s' i = s i) → (∀ i, i ≠ 3 → i ≠ 4 → i ≠ 5 → a' i = a i) → Q (some (.int (iI (s 0)))) (ch n' kd' pl' s' a' (updC c (6 + (s 0).toNat) y) M) nc ns) (k0 : ∀ e p, prT (a 0) (s 4) = .inl (e, p) → e ≠ 0 → s 0 < 32 → ∀ n' kd' pl' y nc ns s' a', grx (6 + (s 0).toNat) n kd pl n' kd' pl' → nc ≤ 2 → ns ≤ 503 → al n' kd' pl' (60 + 2 * (6 + (s 0).toNat)) → okx (rm (6 + (s 0).toNat)) y → s' 1 = e → s' 0 = s 0 → s' 4 = 0 → (∀ i, (i = 2 ∨ i = 3 ∨ 13 < i) → s' i = s i) → (∀ i, i ≠ 3 → i ≠ 4 → i ≠ 5 → a' i = a i) → Q (some (.int (iI (-10 - p)))) (ch n' kd' pl' s' a' (updC c (6 + (s 0).toNat) y) M) nc ns) : pm_E none (d + 8) pm_mm11 0 [(0, .ref (pl 0))] [] (ch n kd pl s a c M) 0 0 Q := by
  refine pm_e_sim pm_a11_0 rfl ?_
  show pm_E _ _ _ 1 [(0, .ref (pl 0))] [.ref (pl 0)] _ _ _ _
  refine pm_i_callv (k := pl 0) (T2 := pm_mm12) pm_a11_1 rfl rfl rfl (cg_0 hW) ⟨Nat.le_of_ble_eq_true rfl, Nat.le_of_ble_eq_true rfl, rfl, by decide +kernel⟩ ?_
  show pm_E none _ _ 0 [(0, .ref (pl 0))] [] _ _ _ _
  refine C_freshTerm hW (by omega) (by omega) hf (fun h32 => ?_) (fun hlt n2 kd2 pl2 x nc2 ns2 hg hnc hns hal hx => ?_)
  · skip
    show pm_E _ _ _ 4 [(0, .ref (pl 0))] [.null] _ _ _ _
    refine pm_e_sim pm_a11_4 rfl ?_
    show pm_E _ _ _ 5 [(0, .ref (pl 0)), (1, .null)] [] _ _ _ _
    refine pm_e_sim pm_a11_5 rfl ?_
    show pm_E _ _ _ 6 [(0, .ref (pl 0)), (1, .null)] [.null] _ _ _ _
    refine pm_e_jmp pm_a11_6 rfl rfl ?_
    show pm_E _ _ _ 9 [(0, .ref (pl 0)), (1, .null)] [] _ _ _ _
    refine pm_e_sim pm_a11_9 rfl ?_
    refine pm_e_top (y := iI (-3)) (by decide +kernel) ?_
    show pm_E _ _ _ 11 [(0, .ref (pl 0)), (1, .null)] [.int (iI (-3))] _ _ _ _
    refine pm_e_ret pm_a11_11 rfl rfl rfl rfl rfl rfl rfl rfl ?_
    exact kf h32
  · obtain ⟨hg, hgx⟩ := hg
    have e0 := (hg.2.2 0 (hW.2.1 0 (by decide))).2
    show pm_E _ _ _ 4 [(0, .ref (pl 0))] [.ref (pl2 (60 + 2 * (6 + (s 0).toNat)))] _ _ _ _
    rw [← e0]
    refine pm_e_sim pm_a11_4 rfl ?_
    refine pm_e_sim pm_a11_5 rfl ?_
    refine pm_e_jmp pm_a11_6 rfl rfl ?_
    show pm_E _ _ _ 12 [(0, .ref (pl2 0)), (1, .ref (pl2 (60 + 2 * (6 + (s 0).toNat))))] [] _ _ _ _
    have hrm : rm (6 + (s 0).toNat) = 500 := by unfold rm; rw [if_neg (by omega)]
    refine C_term_t hg.1 ⟨by omega, hal⟩ hrm h4 h4' hb hin (by rw [updC_at]; exact hx) (fun l y s' a' x1 x2 x0 x3 x4 x5 x6 => ?_) (fun e p y s' a' x1 x2 x9 x0 x3 x4 x5 x6 => ?_)
    · rw [updC_s]
      exact k l x1 hlt n2 kd2 pl2 y _ _ s' a' ⟨hg, hgx⟩ (by omega) (by omega) hal x2 x0 x3 x4 x5 x6
    · rw [updC_s]
      exact k0 e p x1 x9 hlt n2 kd2 pl2 y _ _ s' a' ⟨hg, hgx⟩ (by omega) (by omega) hal x2 x0 x3 x4 x5 x6
