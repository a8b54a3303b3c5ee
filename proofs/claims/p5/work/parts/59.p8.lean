/-! THE REFERENCE: readTerm, the whole; term -/
set_option maxHeartbeats 4000000 in
set_option maxRecDepth 100000 in
theorem M_readTerm_l {d : Nat} {A B : List va_E} {Q : Option Value → List va_E → Nat → Nat → Prop} {s0 : Nat → Int} {a0 : Nat → Int → Int} {RES : PR} (hA : A.length = 18) (hb : ∀ j, 0 ≤ a0 3 j ∧ a0 3 j ≤ 255) (h4 : 0 ≤ s0 4) (h5 : s0 4 ≤ 600) (k : ∀ s' v' a' nm', frP s0 a0 s' a' → (0 ≤ v' ∧ v' ≤ 282429536481) → FX RES s' a' → ∀ o', pm_E none (d + 3) pm_mm149 299 [(0, .ref 18), (1, .int (iI (o')))] [] (mh A s' (lI v') a' nm' B) 0 0 Q) : ∀ (f : Nat) (S : PS) (i : Int) (s : Nat → Int) (v : Int) (a : Nat → Int → Int) (nm : Nat → Int64), gd S → S.2.2.1 = 0 → S.2.2.2 = 0 → frP s0 a0 s a → (0 ≤ v ∧ v ≤ 282429536481) → 0 ≤ i → i ≤ s0 4 → RES = prN (a0 3) (s0 4) S i → RL S s a nm → RW (flat S.1) s a → (0 ≤ (tok (a0 3) (s0 4) i).1 ∧ s 13 = 0 ∧ s 11 = (tok (a0 3) (s0 4) i).1 ∧ v = (tok (a0 3) (s0 4) i).2.1 ∧ s 10 = (tok (a0 3) (s0 4) i).2.2.1 ∧ s 9 = (tok (a0 3) (s0 4) i).2.2.2) → BD (a0 3) (s0 4) i (s 6) → s0 4 - i < (f : Int) → pm_E none (d + 3) pm_mm149 36 [(0, .ref 18), (1, .int (iI 1))] [] (mh A s (lI v) a nm B) 0 0 Q := by
  intro f
  induction f with
  | zero =>
    intro S i s v a nm hgd hh hm hfr hv hi0 hi1 hres hR hw htk hbd hf
    exfalso; omega
  | succ f ih =>
    intro S i s v a nm hgd hh hm hfr hv hi0 hi1 hres hR hw htk hbd hf
    obtain ⟨hk0, h13, e11, ev, e10, e9⟩ := id htk
    have tf := tok_facts (b := a0 3) (n := s0 4) (i := i) hi0 hi1 h5
    have t5v := tf.2.2.2.2.1 (by omega)
    have t6v := tf.2.2.2.2.2.1
    have tl3 := tok_let (b := a0 3) (n := s0 4) (i := i)
    have bt := BD_tok hi0 hi1 h5 hbd
    have hrl := RL_len hR
    have h21 := hR.2.2.2.2.2.1
    have hw6 := hw.1
    have f3 : a 3 = a0 3 := hfr.2 3 (by omega) (by omega) (by omega) (by omega)
    have f4 : s 4 = s0 4 := hfr.1 4 (by omega) (by omega) (by omega) (by omega) (by omega) (by omega) (by omega) (by omega) (by omega)
    refine pm_e_sim pm_a149_36 rfl ?_
    show pm_E _ _ _ 37 [(0, .ref 18), (1, .int (iI 1))] [.int (iI 1)] _ _ _ _
    refine pm_e_iff pm_a149_37 rfl (by decide +kernel) ?_
    show pm_E _ _ _ 40 [(0, .ref 18), (1, .int (iI 1))] [] _ _ _ _
    refine pm_e_sim pm_a149_40 rfl ?_
    show pm_E _ _ _ 41 [(0, .ref 18), (1, .int (iI 1))] [.ref 18] _ _ _ _
    refine pm_i_get pm_a149_41 rfl (mh_get (j := 0) hA rfl) rfl ?_
    show pm_E _ _ _ 44 [(0, .ref 18), (1, .int (iI 1))] [.int (iI (s 13))] _ _ _ _
    refine pm_i_ne (t := 299) pm_a149_44 rfl ⟨by omega, by omega⟩ (fun h_1 => ?_) (fun h_1 => ?_)
    · skip
      exfalso; omega
    · skip
      show pm_E _ _ _ 47 [(0, .ref 18), (1, .int (iI 1))] [] _ _ _ _
      refine pm_e_sim pm_a149_47 rfl ?_
      show pm_E _ _ _ 48 [(0, .ref 18), (1, .int (iI 1))] [.ref 18] _ _ _ _
      refine pm_i_get pm_a149_48 rfl (mh_get (j := 0) hA rfl) rfl ?_
      show pm_E _ _ _ 51 [(0, .ref 18), (1, .int (iI 1))] [.int (iI (s 11))] _ _ _ _
      refine pm_e_sim pm_a149_51 rfl ?_
      refine pm_e_top (y := iI 1) (by decide +kernel) ?_
      show pm_E _ _ _ 52 [(0, .ref 18), (1, .int (iI 1))] [.int (iI 1), .int (iI (s 11))] _ _ _ _
      refine pm_c_ne (t := 62) pm_a149_52 rfl ⟨by omega, by omega⟩ ⟨by omega, by omega⟩ (fun h_2 => ?_) (fun h_2 => ?_)
      · skip
        show pm_E _ _ _ 62 [(0, .ref 18), (1, .int (iI 1))] [] _ _ _ _
        refine pm_e_sim pm_a149_62 rfl ?_
        show pm_E _ _ _ 63 [(0, .ref 18), (1, .int (iI 1))] [.ref 18] _ _ _ _
        refine pm_i_get pm_a149_63 rfl (mh_get (j := 0) hA rfl) rfl ?_
        show pm_E _ _ _ 66 [(0, .ref 18), (1, .int (iI 1))] [.int (iI (s 11))] _ _ _ _
        refine pm_e_sim pm_a149_66 rfl ?_
        refine pm_e_top (y := iI 2) (by decide +kernel) ?_
        show pm_E _ _ _ 67 [(0, .ref 18), (1, .int (iI 1))] [.int (iI 2), .int (iI (s 11))] _ _ _ _
        refine pm_c_ne (t := 77) pm_a149_67 rfl ⟨by omega, by omega⟩ ⟨by omega, by omega⟩ (fun h_3 => ?_) (fun h_3 => ?_)
        · skip
          show pm_E _ _ _ 77 [(0, .ref 18), (1, .int (iI 1))] [] _ _ _ _
          refine pm_e_sim pm_a149_77 rfl ?_
          show pm_E _ _ _ 78 [(0, .ref 18), (1, .int (iI 1))] [.ref 18] _ _ _ _
          refine pm_i_get pm_a149_78 rfl (mh_get (j := 0) hA rfl) rfl ?_
          show pm_E _ _ _ 81 [(0, .ref 18), (1, .int (iI 1))] [.int (iI (s 11))] _ _ _ _
          refine pm_e_sim pm_a149_81 rfl ?_
          refine pm_e_top (y := iI 3) (by decide +kernel) ?_
          show pm_E _ _ _ 82 [(0, .ref 18), (1, .int (iI 1))] [.int (iI 3), .int (iI (s 11))] _ _ _ _
          refine pm_c_ne (t := 105) pm_a149_82 rfl ⟨by omega, by omega⟩ ⟨by omega, by omega⟩ (fun h_4 => ?_) (fun h_4 => ?_)
          · skip
            show pm_E _ _ _ 105 [(0, .ref 18), (1, .int (iI 1))] [] _ _ _ _
            refine pm_e_sim pm_a149_105 rfl ?_
            show pm_E _ _ _ 106 [(0, .ref 18), (1, .int (iI 1))] [.ref 18] _ _ _ _
            refine pm_e_sim pm_a149_106 rfl ?_
            refine pm_e_top (y := iI 40) (by decide +kernel) ?_
            show pm_E _ _ _ 108 [(0, .ref 18), (1, .int (iI 1))] [.int (iI 40), .ref 18] _ _ _ _
            refine pm_i_callv (k := 18) (T2 := pm_mm159) pm_a149_108 rfl rfl rfl (mh_get (j := 0) hA rfl) ⟨Nat.le_of_ble_eq_true rfl, Nat.le_of_ble_eq_true rfl, rfl, by decide +kernel⟩ ?_
            show pm_E none _ _ 0 [(0, .ref 18), (1, .int (iI 40))] [] _ _ _ _
            refine M_isSign hA (by decide) ⟨by omega, by omega⟩ ⟨by omega, by omega⟩ (fun h_5_ h_5 => ?_) (fun h_5 => ?_)
            · skip
              show pm_E _ _ _ 111 [(0, .ref 18), (1, .int (iI 1))] [.int (iI 1)] _ _ _ _
              refine pm_e_iff pm_a149_111 rfl (by decide +kernel) ?_
              show pm_E _ _ _ 114 [(0, .ref 18), (1, .int (iI 1))] [] _ _ _ _
              refine pm_e_sim pm_a149_114 rfl ?_
              show pm_E _ _ _ 115 [(0, .ref 18), (1, .int (iI 1))] [.ref 18] _ _ _ _
              refine pm_i_get pm_a149_115 rfl (mh_get (j := 0) hA rfl) rfl ?_
              show pm_E _ _ _ 118 [(0, .ref 18), (1, .int (iI 1))] [.int (iI (s 21))] _ _ _ _
              refine pm_e_sim pm_a149_118 rfl ?_
              refine pm_e_top (y := iI 40) (by decide +kernel) ?_
              show pm_E _ _ _ 120 [(0, .ref 18), (1, .int (iI 1))] [.int (iI 40), .int (iI (s 21))] _ _ _ _
              refine pm_c_ne (t := 135) pm_a149_120 rfl ⟨by omega, by omega⟩ ⟨by omega, by omega⟩ (fun h_6 => ?_) (fun h_6 => ?_)
              · skip
                show pm_E _ _ _ 135 [(0, .ref 18), (1, .int (iI 1))] [] _ _ _ _
                refine pm_e_sim pm_a149_135 rfl ?_
                show pm_E _ _ _ 136 [(0, .ref 18), (1, .int (iI 1))] [.ref 18] _ _ _ _
                refine pm_e_sim pm_a149_136 rfl ?_
                show pm_E _ _ _ 137 [(0, .ref 18), (1, .int (iI 1))] [.ref 18, .ref 18] _ _ _ _
                refine pm_i_get pm_a149_137 rfl (mh_get (j := 0) hA rfl) rfl ?_
                show pm_E _ _ _ 140 [(0, .ref 18), (1, .int (iI 1))] [.int (iI (s 21)), .ref 18] _ _ _ _
                refine pm_e_sim pm_a149_140 rfl ?_
                refine pm_e_top (y := iI 1) (by decide +kernel) ?_
                show pm_E _ _ _ 141 [(0, .ref 18), (1, .int (iI 1))] [.int (iI 1), .int (iI (s 21)), .ref 18] _ _ _ _
                refine pm_e_sim pm_a149_141 rfl ?_
                refine pm_e_top (y := iI (s 21 + 1)) (iI_add _ _) ?_
                show pm_E _ _ _ 142 [(0, .ref 18), (1, .int (iI 1))] [.int (iI (s 21 + 1)), .ref 18] _ _ _ _
                refine pm_i_put pm_a149_142 rfl (mh_get (j := 0) hA rfl) rfl (Nat.le_of_ble_eq_true rfl) (Or.inl rfl) (mw_21 hA _) ?_
                show pm_E _ _ _ 145 [(0, .ref 18), (1, .int (iI 1))] [] _ _ _ _
                refine pm_e_sim pm_a149_145 rfl ?_
                show pm_E _ _ _ 146 [(0, .ref 18), (1, .int (iI 1))] [.ref 18] _ _ _ _
                refine pm_i_callv (k := 18) (T2 := pm_mm156) pm_a149_146 rfl rfl rfl (mh_get (j := 0) hA rfl) ⟨Nat.le_of_ble_eq_true rfl, Nat.le_of_ble_eq_true rfl, rfl, by decide +kernel⟩ ?_
                show pm_E none _ _ 0 [(0, .ref 18)] [] _ _ _ _
                refine M_partT2 (s := updS s 21 (s 21 + 1)) (t := s 21) (S := S) hA (RL_fr hR rfl rfl rfl rfl rfl rfl) hw (by show s 6 < 12000; omega) (fun s1 a1 gS1 gA1 hR1 hw1 u1 u2 => ?_)
                show pm_E _ _ _ 149 [(0, .ref 18), (1, .int (iI 1))] [] _ _ _ _
                refine pm_e_sim pm_a149_149 rfl ?_
                show pm_E _ _ _ 150 [(0, .ref 18), (1, .int (iI 1))] [.ref 18] _ _ _ _
                refine pm_e_sim pm_a149_150 rfl ?_
                refine pm_e_top (y := iI 0) (by decide +kernel) ?_
                show pm_E _ _ _ 151 [(0, .ref 18), (1, .int (iI 1))] [.int (iI 0), .ref 18] _ _ _ _
                refine pm_i_callv (k := 18) (T2 := pm_mm150) pm_a149_151 rfl rfl rfl (mh_get (j := 0) hA rfl) ⟨Nat.le_of_ble_eq_true rfl, Nat.le_of_ble_eq_true rfl, rfl, by decide +kernel⟩ ?_
                show pm_E none _ _ 0 [(0, .ref 18), (1, .int (iI 0))] [] _ _ _ _
                refine M_levelT2 (S := (pPart S.1, S.2)) (t := s 21) hA hR1 hw1 (Or.inl ⟨rfl, by show (S.2.1.length : Int) + nP (pPart S.1) + 1 ≤ 40; rw [nP_part, ← hR.2.2.2.2.1]; omega, hm⟩) (fun s2 a2 gS2 gA2 hR2 hw2 => ?_)
                show pm_E _ _ _ 154 [(0, .ref 18), (1, .int (iI 1))] [] _ _ _ _
                refine pm_e_sim pm_a149_154 rfl ?_
                show pm_E _ _ _ 155 [(0, .ref 18), (1, .int (iI 1))] [.ref 18] _ _ _ _
                refine pm_i_callv (k := 18) (T2 := pm_mm151) pm_a149_155 rfl rfl rfl (mh_get (j := 0) hA rfl) ⟨Nat.le_of_ble_eq_true rfl, Nat.le_of_ble_eq_true rfl, rfl, by decide +kernel⟩ ?_
                show pm_E none _ _ 0 [(0, .ref 18)] [] _ _ _ _
                have n3 : a2 3 = a0 3 := by rw [gA2 3 (by omega) (by omega) (by omega), gA1 3 (by omega) (by omega)]; exact f3
                have n4 : s2 4 = s0 4 := by rw [gS2 4 (by omega), gS1 4 (by omega)]; exact f4
                have n9 : s2 9 = (tok (a0 3) (s0 4) i).2.2.2 := by rw [gS2 9 (by omega), gS1 9 (by omega)]; exact e9
                have n13 : s2 13 = 0 := by rw [gS2 13 (by omega), gS1 13 (by omega)]; exact h13
                refine M_nextT hA (by rw [n3]; exact hb) n13 (by omega) (by omega) (by omega) (by omega) (fun s9 v9 g9 t9 b9 => ?_)
                rw [n3, n4, n9] at t9
                show pm_E _ _ _ 158 [(0, .ref 18), (1, .int (iI 1))] [] _ _ _ _
                refine pm_e_goto pm_a149_158 rfl ?_
                show pm_E _ _ _ 36 [(0, .ref 18), (1, .int (iI 1))] [] _ _ _ _
                have hps : pst S (tok (a0 3) (s0 4) i).1 (tok (a0 3) (s0 4) i).2.1 = some ((0, 0, []) :: pPart S.1, S.2.1, 0, 0) := by
                  unfold pst
                  rw [if_pos hh, if_neg (by omega), if_neg (by omega), if_neg (by omega), if_pos ⟨by omega, by omega⟩, if_neg (by rw [← hR.2.2.2.2.1]; omega)]
                have hst := prN_step (b := a0 3) (n := s0 4) (by omega) hi0 hi1 (by omega) hps
                have fr9 : frP s0 a0 s9 a2 := frP_t hfr ⟨fun j q1 q2 q3 q4 q5 q6 q7 q8 q9 => by rw [g9 j q2 q3 q4 q5 q6, gS2 j q7, gS1 j q1]; simp [updS, q9], fun j q1 q2 q3 q4 => by rw [gA2 j q2 q3 q4, gA1 j q1 q3]⟩
                have hRS : RL ((0, 0, []) :: pPart S.1, S.2.1, 0, 0) s9 a2 nm := by
                  refine RL_fr hR2 ?_ ?_ ?_ rfl rfl rfl
                  · rw [g9 18 (by omega) (by omega) (by omega) (by omega) (by omega)]; rfl
                  · rw [g9 20 (by omega) (by omega) (by omega) (by omega) (by omega)]; rfl
                  · rw [g9 21 (by omega) (by omega) (by omega) (by omega) (by omega), gS2 21 (by omega), gS1 21 (by omega)]; rfl
                have z96 : s9 6 = s2 6 := g9 6 (by omega) (by omega) (by omega) (by omega) (by omega)
                have z26 : s2 6 = s1 6 := gS2 6 (by omega)
                have u1' : s1 6 ≤ s 6 + 1 := u1
                rcases t9 with ⟨z1, z2⟩ | ⟨z1, z2, z3, z4, z5, z6⟩
                · exact M_readTerm_f hA k (by decide) fr9 b9 (by omega) ⟨by omega, by omega⟩ (by rw [hres, hst, z2.1, z2.2]; exact prN_bad z1)
                · exact ih ((0, 0, []) :: pPart S.1, S.2.1, 0, 0) (tok (a0 3) (s0 4) i).2.2.2 s9 v9 a2 nm (gd_pst hgd (fun _ => (tok_val hb).1) tok_let hps) rfl rfl fr9 b9 (by omega) (by omega) (by rw [hres, hst]) hRS ⟨by rw [z96]; exact hw2.1, hw2.2.1, hw2.2.2⟩ ⟨z1, z2, z3, z4, z5, z6⟩ ⟨by have := bt.1; omega, fun _ _ _ => by have := bt.1; omega⟩ (by omega)
              · skip
                show pm_E _ _ _ 123 [(0, .ref 18), (1, .int (iI 1))] [] _ _ _ _
                refine pm_e_sim pm_a149_123 rfl ?_
                show pm_E _ _ _ 124 [(0, .ref 18), (1, .int (iI 1))] [.ref 18] _ _ _ _
                refine pm_e_sim pm_a149_124 rfl ?_
                refine pm_e_top (y := iI 4) (by decide +kernel) ?_
                show pm_E _ _ _ 125 [(0, .ref 18), (1, .int (iI 1))] [.int (iI 4), .ref 18] _ _ _ _
                refine pm_e_sim pm_a149_125 rfl ?_
                show pm_E _ _ _ 126 [(0, .ref 18), (1, .int (iI 1))] [.ref 18, .int (iI 4), .ref 18] _ _ _ _
                refine pm_i_get pm_a149_126 rfl (mh_get (j := 0) hA rfl) rfl ?_
                show pm_E _ _ _ 129 [(0, .ref 18), (1, .int (iI 1))] [.int (iI (s 10)), .int (iI 4), .ref 18] _ _ _ _
                refine pm_i_callv (k := 18) (T2 := pm_mm153) pm_a149_129 rfl rfl rfl (mh_get (j := 0) hA rfl) ⟨Nat.le_of_ble_eq_true rfl, Nat.le_of_ble_eq_true rfl, rfl, by decide +kernel⟩ ?_
                show pm_E none _ _ 0 [(0, .ref 18), (1, .int (iI 4)), (2, .int (iI (s 10)))] [] _ _ _ _
                refine M_fails hA (by rw [h13]; decide) (fun _ => ?_) (fun z => absurd h13 z)
                show pm_E _ _ _ 132 [(0, .ref 18), (1, .int (iI 1))] [] _ _ _ _
                refine pm_e_goto pm_a149_132 rfl ?_
                show pm_E _ _ _ 36 [(0, .ref 18), (1, .int (iI 1))] [] _ _ _ _
                refine M_readTerm_f hA k (by decide) (frP_t hfr ⟨fun j q1 q2 q3 q4 q5 q6 q7 q8 q9 => by simp [updS, q5, q6], fun j _ _ _ _ => rfl⟩) hv (by show (4 : Int) ≠ 0; decide) (by show fl 4; decide) ?_
                show RES = .inl ((4 : Int), s 10)
                rw [hres, e10]
                refine prN_nc (by omega) ?_ (pft_4 hh (by omega) (by omega))
                unfold pst
                rw [if_pos hh, if_neg (by omega), if_neg (by omega), if_neg (by omega), if_pos ⟨by omega, by omega⟩, if_pos (by rw [← hR.2.2.2.2.1]; omega)]
            · skip
              show pm_E _ _ _ 111 [(0, .ref 18), (1, .int (iI 1))] [.int (iI 0)] _ _ _ _
              refine pm_e_ift pm_a149_111 rfl (by decide +kernel) ?_
              show pm_E _ _ _ 161 [(0, .ref 18), (1, .int (iI 1))] [] _ _ _ _
              refine pm_e_sim pm_a149_161 rfl ?_
              show pm_E _ _ _ 162 [(0, .ref 18), (1, .int (iI 1))] [.ref 18] _ _ _ _
              refine pm_e_sim pm_a149_162 rfl ?_
              refine pm_e_top (y := iI 92) (by decide +kernel) ?_
              show pm_E _ _ _ 164 [(0, .ref 18), (1, .int (iI 1))] [.int (iI 92), .ref 18] _ _ _ _
              refine pm_i_callv (k := 18) (T2 := pm_mm159) pm_a149_164 rfl rfl rfl (mh_get (j := 0) hA rfl) ⟨Nat.le_of_ble_eq_true rfl, Nat.le_of_ble_eq_true rfl, rfl, by decide +kernel⟩ ?_
              show pm_E none _ _ 0 [(0, .ref 18), (1, .int (iI 92))] [] _ _ _ _
              refine M_isSign hA (by decide) ⟨by omega, by omega⟩ ⟨by omega, by omega⟩ (fun h_7_ h_7 => ?_) (fun h_7 => ?_)
              · skip
                show pm_E _ _ _ 167 [(0, .ref 18), (1, .int (iI 1))] [.int (iI 1)] _ _ _ _
                refine pm_e_iff pm_a149_167 rfl (by decide +kernel) ?_
                show pm_E _ _ _ 170 [(0, .ref 18), (1, .int (iI 1))] [] _ _ _ _
                refine pm_e_sim pm_a149_170 rfl ?_
                show pm_E _ _ _ 171 [(0, .ref 18), (1, .int (iI 1))] [.ref 18] _ _ _ _
                refine pm_i_callv (k := 18) (T2 := pm_mm160) pm_a149_171 rfl rfl rfl (mh_get (j := 0) hA rfl) ⟨Nat.le_of_ble_eq_true rfl, Nat.le_of_ble_eq_true rfl, rfl, by decide +kernel⟩ ?_
                show pm_E none _ _ 0 [(0, .ref 18)] [] _ _ _ _
                refine M_readLambda (S := S) (i := i) hA (by rw [f3]; exact hb) (by omega) (by omega) hi0 (by omega) hR hw hh hm h13 (by rw [f3, f4]; exact e9) (by rw [f3, f4]; exact e10) (by rw [f3, f4]; exact ev) (by rw [f3, f4]; exact hbd) (by rw [f3, f4]; omega) (by omega) hgd (fun s9 v9 a9 nm9 fr9 b9 x9 => ?_)
                rw [f3, f4] at x9
                show pm_E _ _ _ 174 [(0, .ref 18), (1, .int (iI 1))] [] _ _ _ _
                refine pm_e_goto pm_a149_174 rfl ?_
                show pm_E _ _ _ 36 [(0, .ref 18), (1, .int (iI 1))] [] _ _ _ _
                have px := x9
                rcases px with ⟨p1, p2, p3⟩ | ⟨S', i', p0, p1, p2, p3, p4, p5, p6, p7, p8, p9, p10, p11, p12, p13, p14, p15⟩
                · exact M_readTerm_f hA k (by decide) (frP_t hfr fr9) b9 p1 p2 (by rw [hres]; exact p3)
                · exact ih S' i' s9 v9 a9 nm9 p0 p1 p2 (frP_t hfr fr9) b9 p3 p5 (by rw [hres]; exact p6) p7 p8 ⟨p9, p10, p11, p12, p13, p14⟩ p15 (by omega)
              · skip
                show pm_E _ _ _ 167 [(0, .ref 18), (1, .int (iI 1))] [.int (iI 0)] _ _ _ _
                refine pm_e_ift pm_a149_167 rfl (by decide +kernel) ?_
                show pm_E _ _ _ 177 [(0, .ref 18), (1, .int (iI 1))] [] _ _ _ _
                refine pm_e_sim pm_a149_177 rfl ?_
                show pm_E _ _ _ 178 [(0, .ref 18), (1, .int (iI 1))] [.ref 18] _ _ _ _
                refine pm_e_sim pm_a149_178 rfl ?_
                refine pm_e_top (y := iI 41) (by decide +kernel) ?_
                show pm_E _ _ _ 180 [(0, .ref 18), (1, .int (iI 1))] [.int (iI 41), .ref 18] _ _ _ _
                refine pm_i_callv (k := 18) (T2 := pm_mm159) pm_a149_180 rfl rfl rfl (mh_get (j := 0) hA rfl) ⟨Nat.le_of_ble_eq_true rfl, Nat.le_of_ble_eq_true rfl, rfl, by decide +kernel⟩ ?_
                show pm_E none _ _ 0 [(0, .ref 18), (1, .int (iI 41))] [] _ _ _ _
                refine M_isSign hA (by decide) ⟨by omega, by omega⟩ ⟨by omega, by omega⟩ (fun h_8_ h_8 => ?_) (fun h_8 => ?_)
                · skip
                  show pm_E _ _ _ 183 [(0, .ref 18), (1, .int (iI 1))] [.int (iI 1)] _ _ _ _
                  refine pm_e_ift pm_a149_183 rfl (by decide +kernel) ?_
                  show pm_E _ _ _ 193 [(0, .ref 18), (1, .int (iI 1))] [] _ _ _ _
                  obtain ⟨L0, ns, hd0, m0⟩ := S
                  replace hh : hd0 = 0 := hh
                  replace hm : m0 = 0 := hm
                  subst hh; subst hm
                  have hkk : (tok (a0 3) (s0 4) i).1 = 0 ∨ ((tok (a0 3) (s0 4) i).1 = 4 ∧ v = 41) := by omega
                  cases L0 with
                  | nil => exact absurd hR.2.2.2.2.2.2.1 (fun z => z)
                  | cons x r =>
                    by_cases hc : x.2.1 = 0
                    · exact M_readTerm_c0 hA hb h4 h5 k (fun S' i' s v a nm g1 g2 g3 g4 g5 g6 g7 g8 g9 g10 g11 g12 g13 => ih S' i' s v a nm g1 g2 g3 g4 g5 g6 g8 g9 g10 g11 g12 g13 (by omega)) hgd hfr hv hi0 hi1 hres hR hw htk hbd hkk hc
                    · exact M_readTerm_c1 hA hb h4 h5 k (fun S' i' s v a nm g1 g2 g3 g4 g5 g6 g7 g8 g9 g10 g11 g12 g13 => ih S' i' s v a nm g1 g2 g3 g4 g5 g6 g8 g9 g10 g11 g12 g13 (by omega)) hgd hfr hv hi0 hi1 hres hR hw htk hbd hkk (by have h9 : gL (x :: r) ((ns.length : Int) - 0) (if (0 : Int) = 0 then -1 else 0) := hgd.2.2.2; have := h9.2.1; omega)
                · skip
                  show pm_E _ _ _ 183 [(0, .ref 18), (1, .int (iI 1))] [.int (iI 0)] _ _ _ _
                  refine pm_e_iff pm_a149_183 rfl (by decide +kernel) ?_
                  show pm_E _ _ _ 186 [(0, .ref 18), (1, .int (iI 1))] [] _ _ _ _
                  refine pm_e_sim pm_a149_186 rfl ?_
                  show pm_E _ _ _ 187 [(0, .ref 18), (1, .int (iI 1))] [.ref 18] _ _ _ _
                  refine pm_i_get pm_a149_187 rfl (mh_get (j := 0) hA rfl) rfl ?_
                  show pm_E _ _ _ 190 [(0, .ref 18), (1, .int (iI 1))] [.int (iI (s 11))] _ _ _ _
                  refine pm_i_ne (t := 287) pm_a149_190 rfl ⟨by omega, by omega⟩ (fun h_9 => ?_) (fun h_9 => ?_)
                  · skip
                    show pm_E _ _ _ 287 [(0, .ref 18), (1, .int (iI 1))] [] _ _ _ _
                    refine pm_e_sim pm_a149_287 rfl ?_
                    show pm_E _ _ _ 288 [(0, .ref 18), (1, .int (iI 1))] [.ref 18] _ _ _ _
                    refine pm_e_sim pm_a149_288 rfl ?_
                    refine pm_e_top (y := iI 2) (by decide +kernel) ?_
                    show pm_E _ _ _ 289 [(0, .ref 18), (1, .int (iI 1))] [.int (iI 2), .ref 18] _ _ _ _
                    refine pm_e_sim pm_a149_289 rfl ?_
                    show pm_E _ _ _ 290 [(0, .ref 18), (1, .int (iI 1))] [.ref 18, .int (iI 2), .ref 18] _ _ _ _
                    refine pm_i_get pm_a149_290 rfl (mh_get (j := 0) hA rfl) rfl ?_
                    show pm_E _ _ _ 293 [(0, .ref 18), (1, .int (iI 1))] [.int (iI (s 10)), .int (iI 2), .ref 18] _ _ _ _
                    refine pm_i_callv (k := 18) (T2 := pm_mm153) pm_a149_293 rfl rfl rfl (mh_get (j := 0) hA rfl) ⟨Nat.le_of_ble_eq_true rfl, Nat.le_of_ble_eq_true rfl, rfl, by decide +kernel⟩ ?_
                    show pm_E none _ _ 0 [(0, .ref 18), (1, .int (iI 2)), (2, .int (iI (s 10)))] [] _ _ _ _
                    refine M_fails hA (by rw [h13]; decide) (fun _ => ?_) (fun z => absurd h13 z)
                    show pm_E _ _ _ 296 [(0, .ref 18), (1, .int (iI 1))] [] _ _ _ _
                    refine pm_e_goto pm_a149_296 rfl ?_
                    show pm_E _ _ _ 36 [(0, .ref 18), (1, .int (iI 1))] [] _ _ _ _
                    refine M_readTerm_f hA k (by decide) (frP_t hfr ⟨fun j q1 q2 q3 q4 q5 q6 q7 q8 q9 => by simp [updS, q5, q6], fun j _ _ _ _ => rfl⟩) hv (by show (2 : Int) ≠ 0; decide) (by show fl 2; decide) ?_
                    show RES = .inl ((2 : Int), s 10)
                    rw [hres, e10]
                    refine prN_nc (by omega) ?_ (pft_o hh (by omega) (by omega))
                    unfold pst
                    rw [if_pos hh, if_neg (by omega), if_neg (by omega), if_neg (by omega), if_neg (by omega), if_neg (by omega), if_neg (by omega)]
                  · skip
                    show pm_E _ _ _ 193 [(0, .ref 18), (1, .int (iI 1))] [] _ _ _ _
                    obtain ⟨L0, ns, hd0, m0⟩ := S
                    replace hh : hd0 = 0 := hh
                    replace hm : m0 = 0 := hm
                    subst hh; subst hm
                    have hkk : (tok (a0 3) (s0 4) i).1 = 0 ∨ ((tok (a0 3) (s0 4) i).1 = 4 ∧ v = 41) := by omega
                    cases L0 with
                    | nil => exact absurd hR.2.2.2.2.2.2.1 (fun z => z)
                    | cons x r =>
                      by_cases hc : x.2.1 = 0
                      · exact M_readTerm_c0 hA hb h4 h5 k (fun S' i' s v a nm g1 g2 g3 g4 g5 g6 g7 g8 g9 g10 g11 g12 g13 => ih S' i' s v a nm g1 g2 g3 g4 g5 g6 g8 g9 g10 g11 g12 g13 (by omega)) hgd hfr hv hi0 hi1 hres hR hw htk hbd hkk hc
                      · exact M_readTerm_c1 hA hb h4 h5 k (fun S' i' s v a nm g1 g2 g3 g4 g5 g6 g7 g8 g9 g10 g11 g12 g13 => ih S' i' s v a nm g1 g2 g3 g4 g5 g6 g8 g9 g10 g11 g12 g13 (by omega)) hgd hfr hv hi0 hi1 hres hR hw htk hbd hkk (by have h9 : gL (x :: r) ((ns.length : Int) - 0) (if (0 : Int) = 0 then -1 else 0) := hgd.2.2.2; have := h9.2.1; omega)
          · skip
            show pm_E _ _ _ 85 [(0, .ref 18), (1, .int (iI 1))] [] _ _ _ _
            refine pm_e_sim pm_a149_85 rfl ?_
            show pm_E _ _ _ 86 [(0, .ref 18), (1, .int (iI 1))] [.ref 18] _ _ _ _
            refine pm_i_callv (k := 18) (T2 := pm_mm156) pm_a149_86 rfl rfl rfl (mh_get (j := 0) hA rfl) ⟨Nat.le_of_ble_eq_true rfl, Nat.le_of_ble_eq_true rfl, rfl, by decide +kernel⟩ ?_
            show pm_E none _ _ 0 [(0, .ref 18)] [] _ _ _ _
            refine M_partT hA hR hw (by omega) (fun s1 a1 gS1 gA1 hR1 hw1 u1 u2 => ?_)
            show pm_E _ _ _ 89 [(0, .ref 18), (1, .int (iI 1))] [] _ _ _ _
            refine pm_e_sim pm_a149_89 rfl ?_
            show pm_E _ _ _ 90 [(0, .ref 18), (1, .int (iI 1))] [.ref 18] _ _ _ _
            refine pm_e_sim pm_a149_90 rfl ?_
            show pm_E _ _ _ 91 [(0, .ref 18), (1, .int (iI 1))] [.ref 18, .ref 18] _ _ _ _
            refine pm_i_get pm_a149_91 rfl (mh_get (j := 0) hA rfl) rfl ?_
            show pm_E _ _ _ 94 [(0, .ref 18), (1, .int (iI 1))] [.long (lI v), .ref 18] _ _ _ _
            refine pm_e_sim pm_a149_94 rfl ?_
            refine pm_e_top (y := iI (v)) (lI_i ⟨by omega, by omega⟩) ?_
            show pm_E _ _ _ 95 [(0, .ref 18), (1, .int (iI 1))] [.int (iI v), .ref 18] _ _ _ _
            refine pm_i_callv (k := 18) (T2 := pm_mm157) pm_a149_95 rfl rfl rfl (mh_get (j := 0) hA rfl) ⟨Nat.le_of_ble_eq_true rfl, Nat.le_of_ble_eq_true rfl, rfl, by decide +kernel⟩ ?_
            show pm_E none _ _ 0 [(0, .ref 18), (1, .int (iI v))] [] _ _ _ _
            refine M_layT hA hw1 (by omega) ⟨by omega, by omega⟩ (fun s2 a2 gS2 gA2 hw2 u3 => ?_)
            show pm_E _ _ _ 98 [(0, .ref 18), (1, .int (iI 1))] [] _ _ _ _
            refine pm_e_sim pm_a149_98 rfl ?_
            show pm_E _ _ _ 99 [(0, .ref 18), (1, .int (iI 1))] [.ref 18] _ _ _ _
            refine pm_i_callv (k := 18) (T2 := pm_mm151) pm_a149_99 rfl rfl rfl (mh_get (j := 0) hA rfl) ⟨Nat.le_of_ble_eq_true rfl, Nat.le_of_ble_eq_true rfl, rfl, by decide +kernel⟩ ?_
            show pm_E none _ _ 0 [(0, .ref 18)] [] _ _ _ _
            have n3 : a2 3 = a0 3 := by rw [gA2 3 (by omega), gA1 3 (by omega) (by omega)]; exact f3
            have n4 : s2 4 = s0 4 := by rw [gS2 4 (by omega), gS1 4 (by omega)]; exact f4
            have n9 : s2 9 = (tok (a0 3) (s0 4) i).2.2.2 := by rw [gS2 9 (by omega), gS1 9 (by omega)]; exact e9
            have n13 : s2 13 = 0 := by rw [gS2 13 (by omega), gS1 13 (by omega)]; exact h13
            refine M_nextT hA (by rw [n3]; exact hb) n13 (by omega) (by omega) (by omega) (by omega) (fun s9 v9 g9 t9 b9 => ?_)
            rw [n3, n4, n9] at t9
            show pm_E _ _ _ 102 [(0, .ref 18), (1, .int (iI 1))] [] _ _ _ _
            refine pm_e_goto pm_a149_102 rfl ?_
            show pm_E _ _ _ 36 [(0, .ref 18), (1, .int (iI 1))] [] _ _ _ _
            have hps : pst S (tok (a0 3) (s0 4) i).1 (tok (a0 3) (s0 4) i).2.1 = some (pAdd (pPart S.1) v, S.2.1, 0, 0) := by
              unfold pst
              rw [if_pos hh, if_neg (by omega), if_neg (by omega), if_pos (by omega), ← ev]
            have hst := prN_step (b := a0 3) (n := s0 4) (by omega) hi0 hi1 (by omega) hps
            have fr9 : frP s0 a0 s9 a2 := frP_t hfr ⟨fun j q1 q2 q3 q4 q5 q6 q7 q8 q9 => by rw [g9 j q2 q3 q4 q5 q6, gS2 j q1, gS1 j q1], fun j q1 q2 q3 q4 => by rw [gA2 j q1, gA1 j q1 q3]⟩
            have hRS : RL (pAdd (pPart S.1) v, S.2.1, 0, 0) s9 a2 nm := by
              have h8 := RL_add (i := v) (h := 0) hR1
              rw [show (pPart S.1, S.2).2.2.2 = 0 from hm] at h8
              refine RL_fr h8 ?_ ?_ ?_ (gA2 7 (by omega)) (gA2 8 (by omega)) (gA2 9 (by omega))
              · rw [g9 18 (by omega) (by omega) (by omega) (by omega) (by omega), gS2 18 (by omega)]
              · rw [g9 20 (by omega) (by omega) (by omega) (by omega) (by omega), gS2 20 (by omega)]
              · rw [g9 21 (by omega) (by omega) (by omega) (by omega) (by omega), gS2 21 (by omega)]
            have hfl : flat (pPart S.1) ++ [v] = flat (pAdd (pPart S.1) v) := by rw [flat_add (pPart_ne (wfL_ne hR.2.2.2.2.2.2.1)), ex1_cell (by omega) (by omega)]
            rw [hfl] at hw2
            have z96 : s9 6 = s2 6 := g9 6 (by omega) (by omega) (by omega) (by omega) (by omega)
            rcases t9 with ⟨z1, z2⟩ | ⟨z1, z2, z3, z4, z5, z6⟩
            · exact M_readTerm_f hA k (by decide) fr9 b9 (by omega) ⟨by omega, by omega⟩ (by rw [hres, hst, z2.1, z2.2]; exact prN_bad z1)
            · exact ih (pAdd (pPart S.1) v, S.2.1, 0, 0) (tok (a0 3) (s0 4) i).2.2.2 s9 v9 a2 nm (gd_pst hgd (fun _ => (tok_val hb).1) tok_let hps) rfl rfl fr9 b9 (by omega) (by omega) (by rw [hres, hst]) hRS ⟨by rw [z96]; exact hw2.1, hw2.2.1, hw2.2.2⟩ ⟨z1, z2, z3, z4, z5, z6⟩ ⟨by have := bt.1; omega, fun _ _ _ => by have := bt.1; omega⟩ (by omega)
        · skip
          show pm_E _ _ _ 70 [(0, .ref 18), (1, .int (iI 1))] [] _ _ _ _
          refine pm_e_sim pm_a149_70 rfl ?_
          show pm_E _ _ _ 71 [(0, .ref 18), (1, .int (iI 1))] [.ref 18] _ _ _ _
          refine pm_i_callv (k := 18) (T2 := pm_mm158) pm_a149_71 rfl rfl rfl (mh_get (j := 0) hA rfl) ⟨Nat.le_of_ble_eq_true rfl, Nat.le_of_ble_eq_true rfl, rfl, by decide +kernel⟩ ?_
          show pm_E none _ _ 0 [(0, .ref 18)] [] _ _ _ _
          refine M_readNumber (S := S) (i := i) hA (by rw [f3]; exact hb) (by omega) (by omega) hi0 (by omega) hR hw hh hm h13 (by rw [f3, f4]; exact e9) (by rw [f3, f4]; exact e10) (by rw [f3, f4]; exact ev) (by rw [f3, f4]; exact hbd) (by rw [f3, f4]; omega) (by rw [f3, f4]; intro z; rw [ev]; exact tok_dig (by omega) z) (fun s9 v9 a9 nm9 fr9 b9 x9 => ?_)
          rw [f3, f4] at x9
          show pm_E _ _ _ 74 [(0, .ref 18), (1, .int (iI 1))] [] _ _ _ _
          refine pm_e_goto pm_a149_74 rfl ?_
          show pm_E _ _ _ 36 [(0, .ref 18), (1, .int (iI 1))] [] _ _ _ _
          rw [ev] at x9
          have px := NX_PX (S := S) (by omega) hi0 (by omega) hb hgd (by omega) (fun S' h => pst_hm hh (by omega) h) x9
          rcases px with ⟨p1, p2, p3⟩ | ⟨S', i', p0, p1, p2, p3, p4, p5, p6, p7, p8, p9, p10, p11, p12, p13, p14, p15⟩
          · exact M_readTerm_f hA k (by decide) (frP_t hfr fr9) b9 p1 p2 (by rw [hres]; exact p3)
          · exact ih S' i' s9 v9 a9 nm9 p0 p1 p2 (frP_t hfr fr9) b9 p3 p5 (by rw [hres]; exact p6) p7 p8 ⟨p9, p10, p11, p12, p13, p14⟩ p15 (by omega)
      · skip
        show pm_E _ _ _ 55 [(0, .ref 18), (1, .int (iI 1))] [] _ _ _ _
        refine pm_e_sim pm_a149_55 rfl ?_
        show pm_E _ _ _ 56 [(0, .ref 18), (1, .int (iI 1))] [.ref 18] _ _ _ _
        refine pm_i_callv (k := 18) (T2 := pm_mm155) pm_a149_56 rfl rfl rfl (mh_get (j := 0) hA rfl) ⟨Nat.le_of_ble_eq_true rfl, Nat.le_of_ble_eq_true rfl, rfl, by decide +kernel⟩ ?_
        show pm_E none _ _ 0 [(0, .ref 18)] [] _ _ _ _
        refine M_readName (S := S) (i := i) hA (by rw [f3]; exact hb) (by omega) (by omega) hi0 (by omega) hR hw hh hm h13 (by rw [f3, f4]; exact e9) (by rw [f3, f4]; exact e10) (by rw [f3, f4]; exact ev) (by rw [f3, f4]; exact hbd) (by rw [f3, f4]; omega) (fun s9 v9 a9 nm9 fr9 b9 x9 => ?_)
        rw [f3, f4] at x9
        show pm_E _ _ _ 59 [(0, .ref 18), (1, .int (iI 1))] [] _ _ _ _
        refine pm_e_goto pm_a149_59 rfl ?_
        show pm_E _ _ _ 36 [(0, .ref 18), (1, .int (iI 1))] [] _ _ _ _
        rw [ev] at x9
        have px := NX_PX (S := S) (by omega) hi0 (by omega) hb hgd (by omega) (fun S' h => pst_hm hh (by omega) h) x9
        rcases px with ⟨p1, p2, p3⟩ | ⟨S', i', p0, p1, p2, p3, p4, p5, p6, p7, p8, p9, p10, p11, p12, p13, p14, p15⟩
        · exact M_readTerm_f hA k (by decide) (frP_t hfr fr9) b9 p1 p2 (by rw [hres]; exact p3)
        · exact ih S' i' s9 v9 a9 nm9 p0 p1 p2 (frP_t hfr fr9) b9 p3 p5 (by rw [hres]; exact p6) p7 p8 ⟨p9, p10, p11, p12, p13, p14⟩ p15 (by omega)
def S00 : PS := ([(-1, 0, [])], [], 0, 0)
/-- what the tape is: a code, or none -/
def prT (b : Int → Int) (n : Int) : PR := match prN b n S00 0 with
  | .inl e => .inl e
  | .inr t => if (exs t).length ≤ 500 then .inr (exs t) else .inl (5, 0)
def TX (R : PR) (s : Nat → Int) (a : Nat → Int → Int) : Prop := (fl (s 13) ∧ R = .inl (s 13, s 14)) ∨ (s 13 = 0 ∧ ∃ l F, R = .inr l ∧ tL F 0 l ∧ l.length ≤ 500 ∧ RW l s a)
theorem RL_0 {s : Nat → Int} {a : Nat → Int → Int} {nm : Nat → Int64} (h1 : s 18 = 1) (h2 : s 20 = 0) (h3 : s 21 = 0) (h7 : a 7 0 = 0) (h8 : a 8 0 = 0) (h9 : a 9 0 = -1) : RL S00 s a nm := ⟨h1, ⟨h7, h8, h9, Int.le_refl 0, trivial⟩, h2, trivial, h3, by omega, Or.inl ⟨rfl, rfl⟩, rfl, Int.le_refl 0, fun v hv => absurd hv List.not_mem_nil⟩
set_option maxHeartbeats 4000000 in
set_option maxRecDepth 100000 in
theorem M_readTerm {d : Nat} {A B : List va_E} {s : Nat → Int} {vl : Int64} {a : Nat → Int → Int} {nm : Nat → Int64} {Q : Option Value → List va_E → Nat → Nat → Prop} (hA : A.length = 18) (hb : ∀ j, 0 ≤ a 3 j ∧ a 3 j ≤ 255) (hr : ∀ j, in32 (a 4 j)) (h4 : 0 ≤ s 4) (h5 : s 4 ≤ 600) (h13 : s 13 = 0) (k : ∀ s' v' a' nm', frP s a s' a' → TX (prT (a 3) (s 4)) s' a' → Q none (mh A s' (lI v') a' nm' B) 0 0) : pm_E none (d + 3) pm_mm149 0 [(0, .ref 18)] [] (mh A s vl a nm B) 0 0 Q := by
  refine pm_e_sim pm_a149_0 rfl ?_
  show pm_E _ _ _ 1 [(0, .ref 18)] [.ref 18] _ _ _ _
  refine pm_e_sim pm_a149_1 rfl ?_
  refine pm_e_top (y := iI 0) (by decide +kernel) ?_
  show pm_E _ _ _ 2 [(0, .ref 18)] [.int (iI 0), .ref 18] _ _ _ _
  refine pm_i_put pm_a149_2 rfl (mh_get (j := 0) hA rfl) rfl (Nat.le_of_ble_eq_true rfl) (Or.inl rfl) (mw_9 hA _) ?_
  show pm_E _ _ _ 5 [(0, .ref 18)] [] _ _ _ _
  refine pm_e_sim pm_a149_5 rfl ?_
  show pm_E _ _ _ 6 [(0, .ref 18)] [.ref 18] _ _ _ _
  refine pm_e_sim pm_a149_6 rfl ?_
  refine pm_e_top (y := iI 0) (by decide +kernel) ?_
  show pm_E _ _ _ 7 [(0, .ref 18)] [.int (iI 0), .ref 18] _ _ _ _
  refine pm_i_put pm_a149_7 rfl (mh_get (j := 0) hA rfl) rfl (Nat.le_of_ble_eq_true rfl) (Or.inl rfl) (mw_6 hA _) ?_
  show pm_E _ _ _ 10 [(0, .ref 18)] [] _ _ _ _
  refine pm_e_sim pm_a149_10 rfl ?_
  show pm_E _ _ _ 11 [(0, .ref 18)] [.ref 18] _ _ _ _
  refine pm_e_sim pm_a149_11 rfl ?_
  refine pm_e_top (y := iI 0) (by decide +kernel) ?_
  show pm_E _ _ _ 12 [(0, .ref 18)] [.int (iI 0), .ref 18] _ _ _ _
  refine pm_i_put pm_a149_12 rfl (mh_get (j := 0) hA rfl) rfl (Nat.le_of_ble_eq_true rfl) (Or.inl rfl) (mw_18 hA _) ?_
  show pm_E _ _ _ 15 [(0, .ref 18)] [] _ _ _ _
  refine pm_e_sim pm_a149_15 rfl ?_
  show pm_E _ _ _ 16 [(0, .ref 18)] [.ref 18] _ _ _ _
  refine pm_e_sim pm_a149_16 rfl ?_
  refine pm_e_top (y := iI 0) (by decide +kernel) ?_
  show pm_E _ _ _ 17 [(0, .ref 18)] [.int (iI 0), .ref 18] _ _ _ _
  refine pm_i_put pm_a149_17 rfl (mh_get (j := 0) hA rfl) rfl (Nat.le_of_ble_eq_true rfl) (Or.inl rfl) (mw_20 hA _) ?_
  show pm_E _ _ _ 20 [(0, .ref 18)] [] _ _ _ _
  refine pm_e_sim pm_a149_20 rfl ?_
  show pm_E _ _ _ 21 [(0, .ref 18)] [.ref 18] _ _ _ _
  refine pm_e_sim pm_a149_21 rfl ?_
  refine pm_e_top (y := iI 0) (by decide +kernel) ?_
  show pm_E _ _ _ 22 [(0, .ref 18)] [.int (iI 0), .ref 18] _ _ _ _
  refine pm_i_put pm_a149_22 rfl (mh_get (j := 0) hA rfl) rfl (Nat.le_of_ble_eq_true rfl) (Or.inl rfl) (mw_21 hA _) ?_
  show pm_E _ _ _ 25 [(0, .ref 18)] [] _ _ _ _
  refine pm_e_sim pm_a149_25 rfl ?_
  show pm_E _ _ _ 26 [(0, .ref 18)] [.ref 18] _ _ _ _
  refine pm_e_sim pm_a149_26 rfl ?_
  refine pm_e_top (y := iI (-1)) (by decide +kernel) ?_
  show pm_E _ _ _ 27 [(0, .ref 18)] [.int (iI (-1)), .ref 18] _ _ _ _
  refine pm_i_callv (k := 18) (T2 := pm_mm150) pm_a149_27 rfl rfl rfl (mh_get (j := 0) hA rfl) ⟨Nat.le_of_ble_eq_true rfl, Nat.le_of_ble_eq_true rfl, rfl, by decide +kernel⟩ ?_
  show pm_E none _ _ 0 [(0, .ref 18), (1, .int (iI (-1)))] [] _ _ _ _
  refine M_level hA (show (0 : Int) ≤ 0 by omega) (show (0 : Int) < 90 by omega) ?_
  obtain ⟨s1, es1⟩ : ∃ z, z = updS (updS (updS (updS (updS (updS s 9 0) 6 0) 18 0) 20 0) 21 0) 18 (0 + 1) := ⟨_, rfl⟩
  obtain ⟨a1, ea1⟩ : ∃ z, z = updA (updA (updA a 7 (updI (a 7) 0 0)) 8 (updI (a 8) 0 0)) 9 (updI (a 9) 0 (-1)) := ⟨_, rfl⟩
  refine pm_e_heap (show _ = mh A s1 vl a1 nm B from by rw [es1, ea1]; rfl) ?_
  show pm_E _ _ _ 30 [(0, .ref 18)] [] _ _ _ _
  refine pm_e_sim pm_a149_30 rfl ?_
  show pm_E _ _ _ 31 [(0, .ref 18)] [.ref 18] _ _ _ _
  refine pm_i_callv (k := 18) (T2 := pm_mm151) pm_a149_31 rfl rfl rfl (mh_get (j := 0) hA rfl) ⟨Nat.le_of_ble_eq_true rfl, Nat.le_of_ble_eq_true rfl, rfl, by decide +kernel⟩ ?_
  show pm_E none _ _ 0 [(0, .ref 18)] [] _ _ _ _
  have f3 : a1 3 = a 3 := by rw [ea1]; rfl
  have f4 : s1 4 = s 4 := by rw [es1]; rfl
  have f9 : s1 9 = 0 := by rw [es1]; rfl
  refine M_nextT hA (by rw [f3]; exact hb) (by rw [es1]; exact h13) (by omega) (by omega) (by omega) (by omega) (fun s9 v9 g9 t9 b9 => ?_)
  rw [f3, f4, f9] at t9
  show pm_E _ _ _ 34 [(0, .ref 18)] [] _ _ _ _
  refine pm_e_sim pm_a149_34 rfl ?_
  refine pm_e_top (y := iI 1) (by decide +kernel) ?_
  show pm_E _ _ _ 35 [(0, .ref 18)] [.int (iI 1)] _ _ _ _
  refine pm_e_sim pm_a149_35 rfl ?_
  show pm_E _ _ _ 36 [(0, .ref 18), (1, .int (iI 1))] [] _ _ _ _
  have fr9 : frP s a s9 a1 := ⟨fun j q1 q2 q3 q4 q5 q6 q7 q8 q9 => by rw [g9 j q2 q3 q4 q5 q6, es1]; simp [updS, q1, q2, q7, q8, q9], fun j q1 q2 q3 q4 => by rw [ea1]; simp [updA, q2, q3, q4]⟩
  have hkk : ∀ s5 v5 a5 nm5, frP s a s5 a5 → (0 ≤ v5 ∧ v5 ≤ 282429536481) → FX (prN (a 3) (s 4) S00 0) s5 a5 → ∀ o', pm_E none (d + 3) pm_mm149 299 [(0, .ref 18), (1, .int (iI (o')))] [] (mh A s5 (lI v5) a5 nm5 B) 0 0 Q := by
    intro s5 v5 a5 nm5 fr5 b5 fx o'
    rcases fx with ⟨x1, x2, x3⟩ | ⟨x1, t, F, x3, x4, x5, x6⟩
    · skip
      refine pm_e_sim pm_a149_299 rfl ?_
      show pm_E _ _ _ 300 [(0, .ref 18), (1, .int (iI (o')))] [.ref 18] _ _ _ _
      refine pm_i_get pm_a149_300 rfl (mh_get (j := 0) hA rfl) rfl ?_
      show pm_E _ _ _ 303 [(0, .ref 18), (1, .int (iI (o')))] [.int (iI (s5 13))] _ _ _ _
      refine pm_i_ne (t := 322) pm_a149_303 rfl ⟨by omega, by omega⟩ (fun h_301 => ?_) (fun h_301 => ?_)
      · skip
        show pm_E _ _ _ 322 [(0, .ref 18), (1, .int (iI (o')))] [] _ _ _ _
        refine pm_e_ret pm_a149_322 rfl rfl rfl rfl rfl rfl rfl rfl ?_
        exact k s5 v5 a5 nm5 fr5 (Or.inl ⟨x2, by unfold prT; rw [x3]⟩)
      · skip
        exfalso; omega
    · skip
      have w56 := x5.1
      refine pm_e_sim pm_a149_299 rfl ?_
      show pm_E _ _ _ 300 [(0, .ref 18), (1, .int (iI (o')))] [.ref 18] _ _ _ _
      refine pm_i_get pm_a149_300 rfl (mh_get (j := 0) hA rfl) rfl ?_
      show pm_E _ _ _ 303 [(0, .ref 18), (1, .int (iI (o')))] [.int (iI (s5 13))] _ _ _ _
      refine pm_i_ne (t := 322) pm_a149_303 rfl ⟨by omega, by omega⟩ (fun h_301 => ?_) (fun h_301 => ?_)
      · skip
        exfalso; omega
      · skip
        show pm_E _ _ _ 306 [(0, .ref 18), (1, .int (iI (o')))] [] _ _ _ _
        refine pm_e_sim pm_a149_306 rfl ?_
        show pm_E _ _ _ 307 [(0, .ref 18), (1, .int (iI (o')))] [.ref 18] _ _ _ _
        refine pm_i_get pm_a149_307 rfl (mh_get (j := 0) hA rfl) rfl ?_
        show pm_E _ _ _ 310 [(0, .ref 18), (1, .int (iI (o')))] [.int (iI (s5 6))] _ _ _ _
        refine pm_e_sim pm_a149_310 rfl ?_
        refine pm_e_top (y := iI 500) (by decide +kernel) ?_
        show pm_E _ _ _ 313 [(0, .ref 18), (1, .int (iI (o')))] [.int (iI 500), .int (iI (s5 6))] _ _ _ _
        refine pm_c_le (t := 322) pm_a149_313 rfl ⟨by omega, by omega⟩ ⟨by omega, by omega⟩ (fun h_302 => ?_) (fun h_302 => ?_)
        · skip
          show pm_E _ _ _ 322 [(0, .ref 18), (1, .int (iI (o')))] [] _ _ _ _
          refine pm_e_ret pm_a149_322 rfl rfl rfl rfl rfl rfl rfl rfl ?_
          refine k s5 v5 a5 nm5 fr5 (Or.inr ⟨x1, exs t, F, ?_, x4, ?_, x5⟩)
          · unfold prT
            rw [x3]
            dsimp only
            have := x5.1
            rw [if_pos (by omega)]
          · have := x5.1; omega
        · skip
          show pm_E _ _ _ 316 [(0, .ref 18), (1, .int (iI (o')))] [] _ _ _ _
          refine pm_e_sim pm_a149_316 rfl ?_
          show pm_E _ _ _ 317 [(0, .ref 18), (1, .int (iI (o')))] [.ref 18] _ _ _ _
          refine pm_e_sim pm_a149_317 rfl ?_
          refine pm_e_top (y := iI 5) (by decide +kernel) ?_
          show pm_E _ _ _ 318 [(0, .ref 18), (1, .int (iI (o')))] [.int (iI 5), .ref 18] _ _ _ _
          refine pm_e_sim pm_a149_318 rfl ?_
          refine pm_e_top (y := iI 0) (by decide +kernel) ?_
          show pm_E _ _ _ 319 [(0, .ref 18), (1, .int (iI (o')))] [.int (iI 0), .int (iI 5), .ref 18] _ _ _ _
          refine pm_i_callv (k := 18) (T2 := pm_mm153) pm_a149_319 rfl rfl rfl (mh_get (j := 0) hA rfl) ⟨Nat.le_of_ble_eq_true rfl, Nat.le_of_ble_eq_true rfl, rfl, by decide +kernel⟩ ?_
          show pm_E none _ _ 0 [(0, .ref 18), (1, .int (iI 5)), (2, .int (iI 0))] [] _ _ _ _
          refine M_fails hA (by rw [x1]; decide) (fun _ => ?_) (fun z => absurd x1 z)
          show pm_E _ _ _ 322 [(0, .ref 18), (1, .int (iI (o')))] [] _ _ _ _
          refine pm_e_ret pm_a149_322 rfl rfl rfl rfl rfl rfl rfl rfl ?_
          refine k _ v5 a5 nm5 ⟨fun j q1 q2 q3 q4 q5 q6 q7 q8 q9 => by simp [updS, q5, q6]; exact fr5.1 j q1 q2 q3 q4 q5 q6 q7 q8 q9, fr5.2⟩ (Or.inl ⟨by show fl 5; decide, ?_⟩)
          show prT (a 3) (s 4) = .inl ((5 : Int), (0 : Int))
          unfold prT
          rw [x3]
          dsimp only
          have := x5.1
          rw [if_neg (by omega)]
  rcases t9 with ⟨z1, z2⟩ | ⟨z1, z2, z3, z4, z5, z6⟩
  · exact M_readTerm_f hA hkk (by decide) fr9 b9 (by omega) ⟨by omega, by omega⟩ (by rw [z2.1, z2.2]; exact prN_bad z1)
  · refine M_readTerm_l hA hb h4 h5 hkk (s 4 + 1).toNat S00 0 s9 v9 a1 nm gd_0 rfl rfl fr9 b9 (by omega) (by omega) rfl ?_ ?_ ⟨z1, z2, z3, z4, z5, z6⟩ ?_ (by omega)
    · exact RL_0 (by rw [g9 18 (by omega) (by omega) (by omega) (by omega) (by omega), es1]; rfl) (by rw [g9 20 (by omega) (by omega) (by omega) (by omega) (by omega), es1]; rfl) (by rw [g9 21 (by omega) (by omega) (by omega) (by omega) (by omega), es1]; rfl) (by rw [ea1]; show updI (a 7) 0 0 0 = 0; rw [updI_s]) (by rw [ea1]; show updI (a 8) 0 0 0 = 0; rw [updI_s]) (by rw [ea1]; show updI (a 9) 0 (-1) 0 = -1; rw [updI_s])
    · exact ⟨by rw [g9 6 (by omega) (by omega) (by omega) (by omega) (by omega), es1]; rfl, rfl, by rw [ea1]; exact hr⟩
    · rw [show s9 6 = 0 from by rw [g9 6 (by omega) (by omega) (by omega) (by omega) (by omega), es1]; rfl]
      exact ⟨by omega, fun _ _ _ => by omega⟩
set_option maxHeartbeats 4000000 in
set_option maxRecDepth 100000 in
theorem M_term {d : Nat} {A B : List va_E} {s : Nat → Int} {vl : Int64} {a : Nat → Int → Int} {nm : Nat → Int64} {Q : Option Value → List va_E → Nat → Nat → Prop} {n : Int} {T : Int → List Int} (hA : A.length = 18) (hin : ∀ i j, in32 (a i j)) (hok : okT n T) (hsh : sh s a n T) (hb : ∀ j, 0 ≤ a 3 j ∧ a 3 j ≤ 255) (h4 : 0 ≤ s 4) (h5 : s 4 ≤ 600) (kf : n = 32 → Q (some (.int (iI (-3)))) (mh A s vl a nm B) 0 0) (kn : ∀ e p, prT (a 3) (s 4) = .inl (e, p) → fl e → n < 32 → ∀ s' v' a' nm', s' 13 = e → s' 0 = n → s' 4 = 0 → (s' 45 = s 45 ∧ s' 30 = s 30 ∧ s' 31 = s 31) → a' 1 = a 1 → a' 2 = a 2 → a' 3 = a 3 → Q (some (.int (iI (-10 - p)))) (mh A s' v' a' nm' B) 0 0) (k : ∀ l F, prT (a 3) (s 4) = .inr l → tL F 0 l → l.length ≤ 500 → n < 32 → ∀ s' v' a' nm', s' 13 = 0 → sh s' a' (n + 1) (upT T n l) → s' 4 = 0 → (s' 45 = s 45 ∧ s' 30 = s 30 ∧ s' 31 = s 31) → a' 3 = a 3 → Q (some (.int (iI n))) (mh A s' v' a' nm' B) 0 0) : pm_E none (d + 4) pm_mm148 0 [(0, .ref 18)] [] (mh A s vl a nm B) 0 0 Q := by
  obtain ⟨on0, on1, okk⟩ := id hok
  have s0 := hsh.1
  refine pm_e_sim pm_a148_0 rfl ?_
  show pm_E _ _ _ 1 [(0, .ref 18)] [.ref 18] _ _ _ _
  refine pm_i_get pm_a148_1 rfl (mh_get (j := 0) hA rfl) rfl ?_
  show pm_E _ _ _ 4 [(0, .ref 18)] [.int (iI (s 0))] _ _ _ _
  refine pm_e_sim pm_a148_4 rfl ?_
  refine pm_e_top (y := iI 32) (by decide +kernel) ?_
  show pm_E _ _ _ 6 [(0, .ref 18)] [.int (iI 32), .int (iI (s 0))] _ _ _ _
  refine pm_c_ne (t := 12) pm_a148_6 rfl ⟨by omega, by omega⟩ ⟨by omega, by omega⟩ (fun h_1 => ?_) (fun h_1 => ?_)
  · skip
    show pm_E _ _ _ 12 [(0, .ref 18)] [] _ _ _ _
    refine pm_e_sim pm_a148_12 rfl ?_
    show pm_E _ _ _ 13 [(0, .ref 18)] [.ref 18] _ _ _ _
    refine pm_e_sim pm_a148_13 rfl ?_
    refine pm_e_top (y := iI 0) (by decide +kernel) ?_
    show pm_E _ _ _ 14 [(0, .ref 18)] [.int (iI 0), .ref 18] _ _ _ _
    refine pm_i_put pm_a148_14 rfl (mh_get (j := 0) hA rfl) rfl (Nat.le_of_ble_eq_true rfl) (Or.inl rfl) (mw_13 hA _) ?_
    show pm_E _ _ _ 17 [(0, .ref 18)] [] _ _ _ _
    refine pm_e_sim pm_a148_17 rfl ?_
    show pm_E _ _ _ 18 [(0, .ref 18)] [.ref 18] _ _ _ _
    refine pm_i_callv (k := 18) (T2 := pm_mm149) pm_a148_18 rfl rfl rfl (mh_get (j := 0) hA rfl) ⟨Nat.le_of_ble_eq_true rfl, Nat.le_of_ble_eq_true rfl, rfl, by decide +kernel⟩ ?_
    show pm_E none _ _ 0 [(0, .ref 18)] [] _ _ _ _
    refine M_readTerm (s := updS s 13 0) hA hb (hin 4) (show 0 ≤ s 4 by omega) (show s 4 ≤ 600 by omega) rfl (fun s1 v1 a1 nm1 fr1 tx => ?_)
    rcases tx with ⟨x1, x2⟩ | ⟨x1, l, F, x2, x3, x4, x5⟩
    · skip
      have s10 : s1 0 = n := by rw [fr1.1 0 (by omega) (by omega) (by omega) (by omega) (by omega) (by omega) (by omega) (by omega) (by omega)]; exact s0
      show pm_E _ _ _ 21 [(0, .ref 18)] [] _ _ _ _
      refine pm_e_sim pm_a148_21 rfl ?_
      show pm_E _ _ _ 22 [(0, .ref 18)] [.ref 18] _ _ _ _
      refine pm_e_sim pm_a148_22 rfl ?_
      refine pm_e_top (y := iI 0) (by decide +kernel) ?_
      show pm_E _ _ _ 23 [(0, .ref 18)] [.int (iI 0), .ref 18] _ _ _ _
      refine pm_i_put pm_a148_23 rfl (mh_get (j := 0) hA rfl) rfl (Nat.le_of_ble_eq_true rfl) (Or.inl rfl) (mw_4 hA _) ?_
      show pm_E _ _ _ 26 [(0, .ref 18)] [] _ _ _ _
      refine pm_e_sim pm_a148_26 rfl ?_
      show pm_E _ _ _ 27 [(0, .ref 18)] [.ref 18] _ _ _ _
      refine pm_i_get pm_a148_27 rfl (mh_get (j := 0) hA rfl) rfl ?_
      show pm_E _ _ _ 30 [(0, .ref 18)] [.int (iI (s1 13))] _ _ _ _
      refine pm_i_le (t := 41) pm_a148_30 rfl ⟨by omega, by omega⟩ (fun h_2 => ?_) (fun h_2 => ?_)
      · skip
        exfalso; omega
      · skip
        show pm_E _ _ _ 33 [(0, .ref 18)] [] _ _ _ _
        refine pm_e_sim pm_a148_33 rfl ?_
        refine pm_e_top (y := iI (-10)) (by decide +kernel) ?_
        show pm_E _ _ _ 35 [(0, .ref 18)] [.int (iI (-10))] _ _ _ _
        refine pm_e_sim pm_a148_35 rfl ?_
        show pm_E _ _ _ 36 [(0, .ref 18)] [.ref 18, .int (iI (-10))] _ _ _ _
        refine pm_i_get pm_a148_36 rfl (mh_get (j := 0) hA rfl) rfl ?_
        show pm_E _ _ _ 39 [(0, .ref 18)] [.int (iI (s1 14)), .int (iI (-10))] _ _ _ _
        refine pm_e_sim pm_a148_39 rfl ?_
        refine pm_e_top (y := iI ((-10) - (s1 14))) (iI_sub _ _) ?_
        show pm_E _ _ _ 40 [(0, .ref 18)] [.int (iI ((-10) - (s1 14)))] _ _ _ _
        refine pm_e_ret pm_a148_40 rfl rfl rfl rfl rfl rfl rfl rfl ?_
        exact kn _ _ x2 x1 (by omega) _ _ _ _ rfl s10 rfl ⟨by show s1 45 = s 45; rw [fr1.1 45 (by omega) (by omega) (by omega) (by omega) (by omega) (by omega) (by omega) (by omega) (by omega)]; rfl, by show s1 30 = s 30; rw [fr1.1 30 (by omega) (by omega) (by omega) (by omega) (by omega) (by omega) (by omega) (by omega) (by omega)]; rfl, by show s1 31 = s 31; rw [fr1.1 31 (by omega) (by omega) (by omega) (by omega) (by omega) (by omega) (by omega) (by omega) (by omega)]; rfl⟩ (fr1.2 1 (by omega) (by omega) (by omega) (by omega)) (fr1.2 2 (by omega) (by omega) (by omega) (by omega)) (fr1.2 3 (by omega) (by omega) (by omega) (by omega))
    · skip
      have s10 : s1 0 = n := by rw [fr1.1 0 (by omega) (by omega) (by omega) (by omega) (by omega) (by omega) (by omega) (by omega) (by omega)]; exact s0
      have w6 := x5.1
      show pm_E _ _ _ 21 [(0, .ref 18)] [] _ _ _ _
      refine pm_e_sim pm_a148_21 rfl ?_
      show pm_E _ _ _ 22 [(0, .ref 18)] [.ref 18] _ _ _ _
      refine pm_e_sim pm_a148_22 rfl ?_
      refine pm_e_top (y := iI 0) (by decide +kernel) ?_
      show pm_E _ _ _ 23 [(0, .ref 18)] [.int (iI 0), .ref 18] _ _ _ _
      refine pm_i_put pm_a148_23 rfl (mh_get (j := 0) hA rfl) rfl (Nat.le_of_ble_eq_true rfl) (Or.inl rfl) (mw_4 hA _) ?_
      show pm_E _ _ _ 26 [(0, .ref 18)] [] _ _ _ _
      refine pm_e_sim pm_a148_26 rfl ?_
      show pm_E _ _ _ 27 [(0, .ref 18)] [.ref 18] _ _ _ _
      refine pm_i_get pm_a148_27 rfl (mh_get (j := 0) hA rfl) rfl ?_
      show pm_E _ _ _ 30 [(0, .ref 18)] [.int (iI (s1 13))] _ _ _ _
      refine pm_i_le (t := 41) pm_a148_30 rfl ⟨by omega, by omega⟩ (fun h_3 => ?_) (fun h_3 => ?_)
      · skip
        show pm_E _ _ _ 41 [(0, .ref 18)] [] _ _ _ _
        refine pm_e_sim pm_a148_41 rfl ?_
        show pm_E _ _ _ 42 [(0, .ref 18)] [.ref 18] _ _ _ _
        refine pm_e_sim pm_a148_42 rfl ?_
        show pm_E _ _ _ 43 [(0, .ref 18)] [.ref 18, .ref 18] _ _ _ _
        refine pm_i_get pm_a148_43 rfl (mh_get (j := 0) hA rfl) rfl ?_
        show pm_E _ _ _ 46 [(0, .ref 18)] [.int (iI (s1 0)), .ref 18] _ _ _ _
        refine pm_i_callv (k := 18) (T2 := pm_mm162) pm_a148_46 rfl rfl rfl (mh_get (j := 0) hA rfl) ⟨Nat.le_of_ble_eq_true rfl, Nat.le_of_ble_eq_true rfl, rfl, by decide +kernel⟩ ?_
        show pm_E none _ _ 0 [(0, .ref 18), (1, .int (iI (s1 0)))] [] _ _ _ _
        have e12 : a1 1 = a 1 := fr1.2 1 (by omega) (by omega) (by omega) (by omega)
        have e22 : a1 2 = a 2 := fr1.2 2 (by omega) (by omega) (by omega) (by omega)
        have e32 : a1 3 = a 3 := fr1.2 3 (by omega) (by omega) (by omega) (by omega)
        refine M_keep hA (show 0 ≤ s1 0 by omega) (show s1 0 < 32 by omega) (show 0 ≤ s1 6 by omega) (show s1 6 ≤ 500 by omega) (fun a3 e3 => ?_)
        have hs3 : ∀ t, 0 ≤ t → t < n + 1 → a3 1 t = (upT T n l t).length ∧ rg (a3 2) (upT T n l t).length (500 * t) = upT T n l t := by
          rw [e3, s10]
          exact sh_keep (by omega) (fun t z y ne => by rw [e12, e22]; exact ⟨(okk t z (by omega)).1, hsh.2 t z (by omega)⟩) x4 x5.2.1 x5.1
        show pm_E _ _ _ 49 [(0, .ref 18)] [] _ _ _ _
        refine pm_e_sim pm_a148_49 rfl ?_
        show pm_E _ _ _ 50 [(0, .ref 18)] [.ref 18] _ _ _ _
        refine pm_e_sim pm_a148_50 rfl ?_
        show pm_E _ _ _ 51 [(0, .ref 18)] [.ref 18, .ref 18] _ _ _ _
        refine pm_i_get pm_a148_51 rfl (mh_get (j := 0) hA rfl) rfl ?_
        show pm_E _ _ _ 54 [(0, .ref 18)] [.int (iI (s1 0)), .ref 18] _ _ _ _
        refine pm_e_sim pm_a148_54 rfl ?_
        refine pm_e_top (y := iI 1) (by decide +kernel) ?_
        show pm_E _ _ _ 55 [(0, .ref 18)] [.int (iI 1), .int (iI (s1 0)), .ref 18] _ _ _ _
        refine pm_e_sim pm_a148_55 rfl ?_
        refine pm_e_top (y := iI (s1 0 + 1)) (iI_add _ _) ?_
        show pm_E _ _ _ 56 [(0, .ref 18)] [.int (iI (s1 0 + 1)), .ref 18] _ _ _ _
        refine pm_i_put pm_a148_56 rfl (mh_get (j := 0) hA rfl) rfl (Nat.le_of_ble_eq_true rfl) (Or.inl rfl) (mw_0 hA _) ?_
        show pm_E _ _ _ 59 [(0, .ref 18)] [] _ _ _ _
        refine pm_e_sim pm_a148_59 rfl ?_
        show pm_E _ _ _ 60 [(0, .ref 18)] [.ref 18] _ _ _ _
        refine pm_i_get pm_a148_60 rfl (mh_get (j := 0) hA rfl) rfl ?_
        show pm_E _ _ _ 63 [(0, .ref 18)] [.int (iI (s1 0 + 1))] _ _ _ _
        refine pm_e_sim pm_a148_63 rfl ?_
        refine pm_e_top (y := iI 1) (by decide +kernel) ?_
        show pm_E _ _ _ 64 [(0, .ref 18)] [.int (iI 1), .int (iI (s1 0 + 1))] _ _ _ _
        refine pm_e_sim pm_a148_64 rfl ?_
        refine pm_e_top (y := iI (s1 0 + 1 - 1)) (iI_sub _ _) ?_
        show pm_E _ _ _ 65 [(0, .ref 18)] [.int (iI (s1 0 + 1 - 1))] _ _ _ _
        refine pm_e_ret pm_a148_65 rfl rfl rfl rfl rfl rfl rfl rfl ?_
        refine pm_q_v (y := iI n) (by rw [s10]; exact congrArg iI (by omega)) ?_
        refine k l F x2 x3 x4 (by omega) _ _ a3 _ (show s1 13 = 0 from x1) ⟨?_, hs3⟩ rfl ?_ ?_
        · show s1 0 + 1 = n + 1; omega
        · exact ⟨by show s1 45 = s 45; rw [fr1.1 45 (by omega) (by omega) (by omega) (by omega) (by omega) (by omega) (by omega) (by omega) (by omega)]; rfl, by show s1 30 = s 30; rw [fr1.1 30 (by omega) (by omega) (by omega) (by omega) (by omega) (by omega) (by omega) (by omega) (by omega)]; rfl, by show s1 31 = s 31; rw [fr1.1 31 (by omega) (by omega) (by omega) (by omega) (by omega) (by omega) (by omega) (by omega) (by omega)]; rfl⟩
        · rw [e3, ← e32]; rfl
      · skip
        exfalso; omega
  · skip
    show pm_E _ _ _ 9 [(0, .ref 18)] [] _ _ _ _
    refine pm_e_sim pm_a148_9 rfl ?_
    refine pm_e_top (y := iI (-3)) (by decide +kernel) ?_
    show pm_E _ _ _ 11 [(0, .ref 18)] [.int (iI (-3))] _ _ _ _
    refine pm_e_ret pm_a148_11 rfl rfl rfl rfl rfl rfl rfl rfl ?_
    exact kf (by omega)
