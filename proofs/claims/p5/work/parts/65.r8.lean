/-! THE CLASS: Reader: takeTokens, the code of the items, readInto -/
theorem CR_s {b : Int → Int} {n : Int} {S : PS} {ps : List Int} {i : Int} {s s' : Nat → Int} {a : Nat → Int → Int} (h : CR b n S ps i s a) (h5 : s' 5 = s 5) (h6 : s' 6 = s 6) (h7 : s' 7 = s 7) (h8 : s' 8 = s 8) : CR b n S ps i s' a := by
  obtain ⟨⟨c1, c2⟩, c3, ⟨c4, c5⟩, c6, c7, c8, hw, k, hl, hv, h40⟩ := h
  exact ⟨⟨h5.trans c1, c2⟩, h6.trans c3, ⟨h7.trans c4, c5⟩, h8.trans c6, c7, c8, hw, k, hl, hv, by rw [h7]; exact h40⟩
def rdG (s : Nat → Int) (a : Nat → Int → Int) (s' : Nat → Int) (a' : Nat → Int → Int) : Prop := (∀ j, j < 5 ∨ 13 < j → s' j = s j) ∧ (∀ j, j ≠ 3 → j ≠ 4 → j ≠ 5 → a' j = a j)
theorem rdG_t {s s1 s2 : Nat → Int} {a a1 a2 : Nat → Int → Int} (h : rdG s a s1 a1) (h' : rdG s1 a1 s2 a2) : rdG s a s2 a2 := ⟨fun j hj => (h'.1 j hj).trans (h.1 j hj), fun j n3 n4 n5 => (h'.2 j n3 n4 n5).trans (h.2 j n3 n4 n5)⟩
theorem rdF_G {s s1 : Nat → Int} {a a1 : Nat → Int → Int} (h : rdF s a s1 a1) : rdG s a s1 a1 := ⟨fun j hj => h.1 j (by omega) (by omega) (by omega) (by omega) (by omega) (by omega), h.2⟩
def RES (R : PR) (s' : Nat → Int) (a' : Nat → Int → Int) : Prop := (1 ≤ s' 12 ∧ s' 12 ≤ 5 ∧ R = .inl (s' 12, s' 13)) ∨ ((s' 12 = 0 ∧ s' 13 = 0) ∧ ∃ t, R = .inr t ∧ s' 5 = (t.length : Int) ∧ rg (a' 3) t.length 0 = t ∧ (t.length : Int) ≤ 601 ∧ (∀ v ∈ t, -600 ≤ v ∧ v ≤ 1020) ∧ ∀ j, in32 (a' 3 j))
set_option maxHeartbeats 4000000 in
set_option maxRecDepth 100000 in
theorem C_r_tt_x {d n : Nat} {kd pl : Nat → Nat} {s : Nat → Int} {a : Nat → Int → Int} {c : Nat → cdt} {M : List va_E} {Q : Option Value → List va_E → Nat → Nat → Prop} {t : Int} (hW : wf n kd pl) (ht : 0 ≤ t) (ht' : t ≤ 1000) (h9 : in32 (s 9)) (h12 : 0 ≤ s 12) (h12' : s 12 ≤ 5) (hx : s 9 = 0 ∨ s 12 ≠ 0) (k : Q none (ch n kd pl s a c M) 0 0) : pm_E none (d + 5) pm_mm17 7 [(0, .ref (pl 9)), (1, .int (iI t))] [] (ch n kd pl s a c M) 0 0 Q := by
  obtain ⟨_, _⟩ := id h9
  refine pm_e_sim pm_a17_7 rfl ?_
  show pm_E _ _ _ 8 [(0, .ref (pl 9)), (1, .int (iI t))] [.int (iI t)] _ _ _ _
  refine pm_e_sim pm_a17_8 rfl ?_
  refine pm_e_top (y := iI 600) (by decide +kernel) ?_
  show pm_E _ _ _ 11 [(0, .ref (pl 9)), (1, .int (iI t))] [.int (iI 600), .int (iI t)] _ _ _ _
  refine pm_c_gt (t := 49) pm_a17_11 rfl ⟨by omega, by omega⟩ ⟨by omega, by omega⟩ (fun h_1 => ?_) (fun h_1 => ?_)
  · skip
    show pm_E _ _ _ 49 [(0, .ref (pl 9)), (1, .int (iI t))] [] _ _ _ _
    refine pm_e_ret pm_a17_49 rfl rfl rfl rfl rfl rfl rfl rfl ?_
    exact k
  · skip
    show pm_E _ _ _ 14 [(0, .ref (pl 9)), (1, .int (iI t))] [] _ _ _ _
    refine pm_e_sim pm_a17_14 rfl ?_
    show pm_E _ _ _ 15 [(0, .ref (pl 9)), (1, .int (iI t))] [.ref (pl 9)] _ _ _ _
    refine pm_i_get pm_a17_15 rfl (cg_9 hW) rfl ?_
    show pm_E _ _ _ 18 [(0, .ref (pl 9)), (1, .int (iI t))] [.int (iI (s 9))] _ _ _ _
    refine pm_i_eq (t := 49) pm_a17_18 rfl ⟨by omega, by omega⟩ (fun h_2 => ?_) (fun h_2 => ?_)
    · skip
      show pm_E _ _ _ 49 [(0, .ref (pl 9)), (1, .int (iI t))] [] _ _ _ _
      refine pm_e_ret pm_a17_49 rfl rfl rfl rfl rfl rfl rfl rfl ?_
      exact k
    · skip
      show pm_E _ _ _ 21 [(0, .ref (pl 9)), (1, .int (iI t))] [] _ _ _ _
      refine pm_e_sim pm_a17_21 rfl ?_
      show pm_E _ _ _ 22 [(0, .ref (pl 9)), (1, .int (iI t))] [.ref (pl 9)] _ _ _ _
      refine pm_i_get pm_a17_22 rfl (cg_9 hW) rfl ?_
      show pm_E _ _ _ 25 [(0, .ref (pl 9)), (1, .int (iI t))] [.int (iI (s 12))] _ _ _ _
      refine pm_i_ne (t := 49) pm_a17_25 rfl ⟨by omega, by omega⟩ (fun h_3 => ?_) (fun h_3 => ?_)
      · skip
        show pm_E _ _ _ 49 [(0, .ref (pl 9)), (1, .int (iI t))] [] _ _ _ _
        refine pm_e_ret pm_a17_49 rfl rfl rfl rfl rfl rfl rfl rfl ?_
        exact k
      · skip
        exfalso; omega
def nrS (s : Nat → Int) : Nat → Int := fun j => (iI (s j)).toInt
theorem ch_normS {n : Nat} {kd pl : Nat → Nat} {s : Nat → Int} {a : Nat → Int → Int} {c : Nat → cdt} {M : List va_E} : ch n kd pl s a c M = ch n kd pl (nrS s) a c M := by
  unfold ch kc cf0 cf1 cf6 cf9 cf13 cf15 cf200 cf203 nrS
  simp only [iI_of]
theorem C_r_tt_y {d n : Nat} {kd pl : Nat → Nat} {s : Nat → Int} {a : Nat → Int → Int} {c : Nat → cdt} {M : List va_E} {Q : Option Value → List va_E → Nat → Nat → Prop} {t : Int} (hW : wf n kd pl) (ht : 0 ≤ t) (ht' : t ≤ 1000) (h12 : 1 ≤ s 12) (h12' : s 12 ≤ 5) (k : Q none (ch n kd pl s a c M) 0 0) : pm_E none (d + 5) pm_mm17 7 [(0, .ref (pl 9)), (1, .int (iI t))] [] (ch n kd pl s a c M) 0 0 Q := by
  have e12 : nrS s 12 = s 12 := iI_t ⟨by omega, by omega⟩
  rw [ch_normS] at k ⊢
  exact C_r_tt_x hW ht ht' (in32_of _) (by omega) (by omega) (Or.inr (by omega)) k
set_option maxHeartbeats 4000000 in
set_option maxRecDepth 100000 in
theorem C_r_tt_l {d n : Nat} {kd pl : Nat → Nat} {c : Nat → cdt} {M : List va_E} {Q : Option Value → List va_E → Nat → Nat → Prop} {b : Int → Int} {N : Int} (hW : wf n kd pl) (hb : ∀ j, 0 ≤ b j ∧ b j ≤ 255) (hN : N ≤ 600) : ∀ (f : Nat) (S : PS) (ps : List Int) (s : Nat → Int) (a : Nat → Int → Int) (t : Int), a 0 = b → s 4 = N → (∀ i j, in32 (a i j)) → 1 ≤ s 9 → s 9 ≤ 4 → s 12 = 0 → s 13 = 0 → 0 ≤ s 11 → s 11 ≤ N → CR b N S ps (s 11) s a → 0 ≤ t → t ≤ s 11 → (∀ s' a', rdG s a s' a' → RES (prN b N S (s 11)) s' a' → Q none (ch n kd pl s' a' c M) 0 0) → N - s 11 < (f : Int) → pm_E none (d + 5) pm_mm17 7 [(0, .ref (pl 9)), (1, .int (iI t))] [] (ch n kd pl s a c M) 0 0 Q := by
  intro f
  induction f with
  | zero =>
    intro S ps s a t ea e4 hin h9 h9' h12 h13 h11 h11' hCR ht ht' k hf
    exfalso; omega
  | succ f ih =>
    intro S ps s a t ea e4 hin h9 h9' h12 h13 h11 h11' hCR ht ht' k hf
    have hb0 : ∀ j, 0 ≤ a 0 j ∧ a 0 j ≤ 255 := by rw [ea]; exact hb
    refine pm_e_sim pm_a17_7 rfl ?_
    show pm_E _ _ _ 8 [(0, .ref (pl 9)), (1, .int (iI t))] [.int (iI t)] _ _ _ _
    refine pm_e_sim pm_a17_8 rfl ?_
    refine pm_e_top (y := iI 600) (by decide +kernel) ?_
    show pm_E _ _ _ 11 [(0, .ref (pl 9)), (1, .int (iI t))] [.int (iI 600), .int (iI t)] _ _ _ _
    refine pm_c_gt (t := 49) pm_a17_11 rfl ⟨by omega, by omega⟩ ⟨by omega, by omega⟩ (fun h_1 => ?_) (fun h_1 => ?_)
    · skip
      exfalso; omega
    · skip
      show pm_E _ _ _ 14 [(0, .ref (pl 9)), (1, .int (iI t))] [] _ _ _ _
      refine pm_e_sim pm_a17_14 rfl ?_
      show pm_E _ _ _ 15 [(0, .ref (pl 9)), (1, .int (iI t))] [.ref (pl 9)] _ _ _ _
      refine pm_i_get pm_a17_15 rfl (cg_9 hW) rfl ?_
      show pm_E _ _ _ 18 [(0, .ref (pl 9)), (1, .int (iI t))] [.int (iI (s 9))] _ _ _ _
      refine pm_i_eq (t := 49) pm_a17_18 rfl ⟨by omega, by omega⟩ (fun h_2 => ?_) (fun h_2 => ?_)
      · skip
        exfalso; omega
      · skip
        show pm_E _ _ _ 21 [(0, .ref (pl 9)), (1, .int (iI t))] [] _ _ _ _
        refine pm_e_sim pm_a17_21 rfl ?_
        show pm_E _ _ _ 22 [(0, .ref (pl 9)), (1, .int (iI t))] [.ref (pl 9)] _ _ _ _
        refine pm_i_get pm_a17_22 rfl (cg_9 hW) rfl ?_
        show pm_E _ _ _ 25 [(0, .ref (pl 9)), (1, .int (iI t))] [.int (iI (s 12))] _ _ _ _
        refine pm_i_ne (t := 49) pm_a17_25 rfl ⟨by omega, by omega⟩ (fun h_3 => ?_) (fun h_3 => ?_)
        · skip
          exfalso; omega
        · skip
          show pm_E _ _ _ 28 [(0, .ref (pl 9)), (1, .int (iI t))] [] _ _ _ _
          refine pm_e_sim pm_a17_28 rfl ?_
          show pm_E _ _ _ 29 [(0, .ref (pl 9)), (1, .int (iI t))] [.ref (pl 9)] _ _ _ _
          refine pm_i_callv (k := (pl 9)) (T2 := pm_mm18) pm_a17_29 rfl rfl rfl (cg_9 hW) ⟨Nat.le_of_ble_eq_true rfl, Nat.le_of_ble_eq_true rfl, rfl, by decide +kernel⟩ ?_
          show pm_E none _ _ 0 [(0, .ref (pl 9))] [] _ _ _ _
          refine C_r_findToken hW (by omega) (by omega) hb0 h11 (by omega) h12 (fun s1 g1 t1 => ?_)
          have hCR1 : CR (a 0) (s1 4) S ps (s 11) s1 a := by rw [ea, g1 4 (by decide) (by decide) (by decide) (by decide) (by decide), e4]; exact CR_s hCR (g1 5 (by decide) (by decide) (by decide) (by decide) (by decide)) (g1 6 (by decide) (by decide) (by decide) (by decide) (by decide)) (g1 7 (by decide) (by decide) (by decide) (by decide) (by decide)) (g1 8 (by decide) (by decide) (by decide) (by decide) (by decide))
          have f4 : s1 4 = s 4 := g1 4 (by decide) (by decide) (by decide) (by decide) (by decide)
          have G1 : rdG s a s1 a := ⟨fun j hj => g1 j (by omega) (by omega) (by omega) (by omega) (by omega), fun _ _ _ _ => rfl⟩
          obtain ⟨y1, y2, y3, y4, y5, y6, _⟩ := tok_facts (b := a 0) h11 (by omega : s 11 ≤ s 4) (by omega)
          rcases t1 with ⟨t1, t2⟩ | ⟨t1, t2, t3, t4, t5⟩
          · skip
            show pm_E _ _ _ 32 [(0, .ref (pl 9)), (1, .int (iI t))] [] _ _ _ _
            refine pm_e_sim pm_a17_32 rfl ?_
            show pm_E _ _ _ 33 [(0, .ref (pl 9)), (1, .int (iI t))] [.ref (pl 9)] _ _ _ _
            refine pm_i_get pm_a17_33 rfl (cg_9 hW) rfl ?_
            show pm_E _ _ _ 36 [(0, .ref (pl 9)), (1, .int (iI t))] [.int (iI (s1 12))] _ _ _ _
            refine pm_i_ne (t := 43) pm_a17_36 rfl ⟨by omega, by omega⟩ (fun h_4 => ?_) (fun h_4 => ?_)
            · skip
              show pm_E _ _ _ 43 [(0, .ref (pl 9)), (1, .int (iI t))] [] _ _ _ _
              refine pm_e_inc (y := iI (t + 1)) pm_a17_43 rfl (iI_add _ _) (by decide +kernel) rfl ?_
              show pm_E _ _ _ 46 [(0, .ref (pl 9)), (1, .int (iI (t + 1)))] [] _ _ _ _
              refine pm_e_goto pm_a17_46 rfl ?_
              show pm_E _ _ _ 7 [(0, .ref (pl 9)), (1, .int (iI (t + 1)))] [] _ _ _ _
              exact C_r_tt_y hW (by omega) (by omega) (by omega) (by omega) (k s1 a G1 (Or.inl ⟨by omega, by omega, by rw [← ea, ← e4, t2.1, t2.2]; exact prN_bad t1⟩))
            · skip
              exfalso; omega
          · skip
            show pm_E _ _ _ 32 [(0, .ref (pl 9)), (1, .int (iI t))] [] _ _ _ _
            refine pm_e_sim pm_a17_32 rfl ?_
            show pm_E _ _ _ 33 [(0, .ref (pl 9)), (1, .int (iI t))] [.ref (pl 9)] _ _ _ _
            refine pm_i_get pm_a17_33 rfl (cg_9 hW) rfl ?_
            show pm_E _ _ _ 36 [(0, .ref (pl 9)), (1, .int (iI t))] [.int (iI (s1 12))] _ _ _ _
            refine pm_i_ne (t := 43) pm_a17_36 rfl ⟨by omega, by omega⟩ (fun h_5 => ?_) (fun h_5 => ?_)
            · skip
              exfalso; omega
            · skip
              show pm_E _ _ _ 39 [(0, .ref (pl 9)), (1, .int (iI t))] [] _ _ _ _
              refine pm_e_sim pm_a17_39 rfl ?_
              show pm_E _ _ _ 40 [(0, .ref (pl 9)), (1, .int (iI t))] [.ref (pl 9)] _ _ _ _
              refine pm_i_callv (k := (pl 9)) (T2 := pm_mm26) pm_a17_40 rfl rfl rfl (cg_9 hW) ⟨Nat.le_of_ble_eq_true rfl, Nat.le_of_ble_eq_true rfl, rfl, by decide +kernel⟩ ?_
              show pm_E none _ _ 0 [(0, .ref (pl 9))] [] _ _ _ _
              refine C_r_takeToken hW (by omega) (by omega) hb0 hin hCR1 t2.1 h11 (by omega) (by rw [f4]; exact t1) (by rw [f4]; exact t3) (by rw [f4]; exact t4) (by rw [f4]; exact t5) (fun s2 a2 t6 => ?_)
              obtain ⟨fr2, t6⟩ := t6
              have G2 := rdG_t G1 (rdF_G fr2)
              have n9 : s2 9 = s1 9 := fr2.1 9 (by decide) (by decide) (by decide) (by decide) (by decide) (by decide)
              have n11 : s2 11 = s1 11 := fr2.1 11 (by decide) (by decide) (by decide) (by decide) (by decide) (by decide)
              have n4 : s2 4 = s1 4 := fr2.1 4 (by decide) (by decide) (by decide) (by decide) (by decide) (by decide)
              have n0 : a2 0 = a 0 := fr2.2 0 (by decide) (by decide) (by decide)
              rcases t6 with ⟨t6, t7, t8⟩ | ⟨t6, t7, t8, t9, t10, S', ps', t11, t12⟩ | ⟨t6, t7, t8, t9⟩
              · skip
                show pm_E _ _ _ 43 [(0, .ref (pl 9)), (1, .int (iI t))] [] _ _ _ _
                refine pm_e_inc (y := iI (t + 1)) pm_a17_43 rfl (iI_add _ _) (by decide +kernel) rfl ?_
                show pm_E _ _ _ 46 [(0, .ref (pl 9)), (1, .int (iI (t + 1)))] [] _ _ _ _
                refine pm_e_goto pm_a17_46 rfl ?_
                show pm_E _ _ _ 7 [(0, .ref (pl 9)), (1, .int (iI (t + 1)))] [] _ _ _ _
                exact C_r_tt_y hW (by omega) (by omega) (by omega) (by omega) (k s2 a2 G2 (Or.inl ⟨t6, t7, by rw [← ea, ← e4, ← f4]; exact t8⟩))
              · skip
                show pm_E _ _ _ 43 [(0, .ref (pl 9)), (1, .int (iI t))] [] _ _ _ _
                refine pm_e_inc (y := iI (t + 1)) pm_a17_43 rfl (iI_add _ _) (by decide +kernel) rfl ?_
                show pm_E _ _ _ 46 [(0, .ref (pl 9)), (1, .int (iI (t + 1)))] [] _ _ _ _
                refine pm_e_goto pm_a17_46 rfl ?_
                show pm_E _ _ _ 7 [(0, .ref (pl 9)), (1, .int (iI (t + 1)))] [] _ _ _ _
                refine ih S' ps' s2 a2 (t + 1) (n0.trans ea) (by omega) t10 (by omega) (by omega) t6.1 (by omega) (by omega) (by omega) ?_ (by omega) (by omega) (fun s3 a3 G3 R3 => k s3 a3 (rdG_t G2 G3) ?_) (by omega)
                · rw [← ea, ← e4, ← f4, n11]; exact t12
                · have e9 : prN b N S (s 11) = prN b N S' (s2 11) := by rw [← ea, ← e4, ← f4, n11]; exact t11
                  rw [e9]; exact R3
              · skip
                show pm_E _ _ _ 43 [(0, .ref (pl 9)), (1, .int (iI t))] [] _ _ _ _
                refine pm_e_inc (y := iI (t + 1)) pm_a17_43 rfl (iI_add _ _) (by decide +kernel) rfl ?_
                show pm_E _ _ _ 46 [(0, .ref (pl 9)), (1, .int (iI (t + 1)))] [] _ _ _ _
                refine pm_e_goto pm_a17_46 rfl ?_
                show pm_E _ _ _ 7 [(0, .ref (pl 9)), (1, .int (iI (t + 1)))] [] _ _ _ _
                subst t7; subst t8
                obtain ⟨⟨c1, c2⟩, _, _, _, _, _, _, _, hl, hv, _⟩ := hCR1
                exact C_r_tt_x hW (by omega) (by omega) ⟨by omega, by omega⟩ (by omega) (by omega) (Or.inl (by omega)) (k s2 a2 G2 (Or.inr ⟨⟨t2.1, t2.2.trans h13⟩, itm S.1, by rw [← ea, ← e4, ← f4]; exact t9, c1, c2, by omega, fun v z => by have := hv v z; omega, hin 3⟩))
