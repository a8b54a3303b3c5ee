/-! THE REFERENCE: next -/
theorem updS_3 {s : Nat → Int} {x y z : Int} : updS (updS (updS s 9 x) 10 y) 11 z = updS (updS (updS s 10 y) 11 z) 9 x := by
  rw [updS_c (k := 9) (l := 10) (by decide), updS_c (k := 9) (l := 11) (by decide)]
set_option maxHeartbeats 4000000 in
set_option maxRecDepth 100000 in
theorem M_next {d : Nat} {A B : List va_E} {s : Nat → Int} {vl : Int64} {a : Nat → Int → Int} {nm : Nat → Int64} {Q : Option Value → List va_E → Nat → Nat → Prop} (hA : A.length = 18) (hb : ∀ j, 0 ≤ a 3 j ∧ a 3 j ≤ 255) (h13 : s 13 = 0) (h4 : 0 ≤ s 4) (h5 : s 4 ≤ 600) (h9 : 0 ≤ s 9) (h9' : s 9 ≤ s 4) (kE : ∀ i, i = skp (a 3) (s 4) 600 (s 9) → s 4 ≤ i → Q none (mh A (updS (updS (updS s 9 i) 10 i) 11 0) (lI 0) a nm B) 0 0) (kN : ∀ i p, i = skp (a 3) (s 4) 600 (s 9) → i < s 4 → 97 ≤ a 3 i → a 3 i ≤ 122 → p = rdl (a 3) 97 122 27 96 8 (s 4) i 600 i 0 → p.1 - i ≤ 8 → Q none (mh A (updS (updS (updS s 10 i) 11 1) 9 p.1) (lI p.2) a nm B) 0 0) (kNf : ∀ i p, i = skp (a 3) (s 4) 600 (s 9) → i < s 4 → 97 ≤ a 3 i → a 3 i ≤ 122 → p = rdl (a 3) 97 122 27 96 8 (s 4) i 600 i 0 → 8 < p.1 - i → Q none (mh A (updS (updS (updS (updS (updS s 10 i) 11 1) 9 p.1) 13 1) 14 i) (lI p.2) a nm B) 0 0) (kM : ∀ i p, i = skp (a 3) (s 4) 600 (s 9) → i < s 4 → 48 ≤ a 3 i → a 3 i ≤ 57 → p = rdl (a 3) 48 57 10 48 2 (s 4) i 600 i 0 → p.1 - i ≤ 2 ∧ p.2 ≤ 20 → Q none (mh A (updS (updS (updS s 10 i) 11 2) 9 p.1) (lI p.2) a nm B) 0 0) (kMf : ∀ i p, i = skp (a 3) (s 4) 600 (s 9) → i < s 4 → 48 ≤ a 3 i → a 3 i ≤ 57 → p = rdl (a 3) 48 57 10 48 2 (s 4) i 600 i 0 → 2 < p.1 - i ∨ 20 < p.2 → Q none (mh A (updS (updS (updS (updS (updS s 10 i) 11 2) 9 p.1) 13 1) 14 i) (lI p.2) a nm B) 0 0) (kL : ∀ i, i = skp (a 3) (s 4) 600 (s 9) → i < s 4 → (a 3 i < 97 ∨ 122 < a 3 i) → (a 3 i < 48 ∨ 57 < a 3 i) → lof (a 3 i) ≠ -4 → Q none (mh A (updS (updS (updS (updS s 9 i) 10 i) 11 3) 9 (i + 1)) (lI (lof (a 3 i))) a nm B) 0 0) (kS : ∀ i, i = skp (a 3) (s 4) 600 (s 9) → i < s 4 → lof (a 3 i) = -4 → (a 3 i = 40 ∨ a 3 i = 41 ∨ a 3 i = 92 ∨ a 3 i = 46) → Q none (mh A (updS (updS (updS (updS s 9 i) 10 i) 11 4) 9 (i + 1)) (lI (a 3 i)) a nm B) 0 0) (kB : ∀ i, i = skp (a 3) (s 4) 600 (s 9) → i < s 4 → (a 3 i < 97 ∨ 122 < a 3 i) → (a 3 i < 48 ∨ 57 < a 3 i) → lof (a 3 i) = -4 → a 3 i ≠ 40 → a 3 i ≠ 41 → a 3 i ≠ 92 → a 3 i ≠ 46 → Q none (mh A (updS (updS (updS (updS s 9 i) 10 i) 13 1) 14 i) (lI 0) a nm B) 0 0) : pm_E none (d + 1) pm_mm151 0 [(0, .ref 18)] [] (mh A s vl a nm B) 0 0 Q := by
  refine pm_e_heap (congrArg (fun z => mh A z _ _ _ B) (updS_self (s := s) (k := 9)).symm) ?_
  refine M_next_1 hA (fun j => ⟨by have := hb j; omega, by have := hb j; omega⟩) h4 h5 600 (s 9) h9 h9' (by omega) ?_
  obtain ⟨hi0, hi1⟩ := skp_le (g := a 3) (n := s 4) 600 (s 9) h9'
  generalize hI : skp (a 3) (s 4) 600 (s 9) = i at hi0 hi1 ⊢
  have hbi := hb i
  show pm_E none _ _ 22 [(0, .ref 18)] [] _ _ _ _
  refine pm_e_sim pm_a151_22 rfl ?_
  show pm_E _ _ _ 23 [(0, .ref 18)] [.ref 18] _ _ _ _
  refine pm_e_sim pm_a151_23 rfl ?_
  show pm_E _ _ _ 24 [(0, .ref 18)] [.ref 18, .ref 18] _ _ _ _
  refine pm_i_get pm_a151_24 rfl (mh_get (j := 0) hA rfl) rfl ?_
  show pm_E _ _ _ 27 [(0, .ref 18)] [.int (iI i), .ref 18] _ _ _ _
  refine pm_i_put pm_a151_27 rfl (mh_get (j := 0) hA rfl) rfl (Nat.le_of_ble_eq_true rfl) (Or.inl rfl) (mw_10 hA _) ?_
  show pm_E _ _ _ 30 [(0, .ref 18)] [] _ _ _ _
  refine pm_e_sim pm_a151_30 rfl ?_
  show pm_E _ _ _ 31 [(0, .ref 18)] [.ref 18] _ _ _ _
  refine pm_e_sim pm_a151_31 rfl ?_
  refine pm_l_top (y := lI 0) (by decide +kernel) ?_
  show pm_E _ _ _ 32 [(0, .ref 18)] [.long (lI 0), .ref 18] _ _ _ _
  refine pm_i_put pm_a151_32 rfl (mh_get (j := 0) hA rfl) rfl (Nat.le_of_ble_eq_true rfl) (Or.inl rfl) (mw_l hA _) ?_
  show pm_E _ _ _ 35 [(0, .ref 18)] [] _ _ _ _
  refine pm_e_sim pm_a151_35 rfl ?_
  show pm_E _ _ _ 36 [(0, .ref 18)] [.ref 18] _ _ _ _
  refine pm_i_callv (k := 18) (T2 := pm_mm152) pm_a151_36 rfl rfl rfl (mh_get (j := 0) hA rfl) ⟨Nat.le_of_ble_eq_true rfl, Nat.le_of_ble_eq_true rfl, rfl, by decide +kernel⟩ ?_
  show pm_E none _ _ 0 [(0, .ref 18)] [] _ _ _ _
  refine M_look hA (show 0 ≤ i by omega) (show i ≤ 100000 by omega) (show 0 ≤ s 4 by omega) (show s 4 ≤ 600 by omega) (fun h_1 => ?_) (fun h_1 => ?_)
  · skip
    replace h_1 : i < s 4 := h_1
    show pm_E _ _ _ 39 [(0, .ref 18)] [.int (iI ((a 3) (i)))] _ _ _ _
    refine pm_e_sim pm_a151_39 rfl ?_
    show pm_E _ _ _ 40 [(0, .ref 18), (1, .int (iI ((a 3) (i))))] [] _ _ _ _
    refine pm_e_sim pm_a151_40 rfl ?_
    show pm_E _ _ _ 41 [(0, .ref 18), (1, .int (iI ((a 3) (i))))] [.int (iI ((a 3) (i)))] _ _ _ _
    refine pm_i_ge (t := 52) pm_a151_41 rfl ⟨by omega, by omega⟩ (fun h_2 => ?_) (fun h_2 => ?_)
    · skip
      show pm_E _ _ _ 52 [(0, .ref 18), (1, .int (iI ((a 3) (i))))] [] _ _ _ _
      refine pm_e_sim pm_a151_52 rfl ?_
      show pm_E _ _ _ 53 [(0, .ref 18), (1, .int (iI ((a 3) (i))))] [.int (iI ((a 3) (i)))] _ _ _ _
      refine pm_e_sim pm_a151_53 rfl ?_
      refine pm_l_top (y := lI ((a 3) (i))) (iI_l ⟨by omega, by omega⟩) ?_
      show pm_E _ _ _ 54 [(0, .ref 18), (1, .int (iI ((a 3) (i))))] [.long (lI ((a 3) (i)))] _ _ _ _
      refine pm_e_rd pm_a151_54 rfl rfl rfl ?_
      refine pm_l_top (y := lI 97) (by decide +kernel) ?_
      show pm_E _ _ _ 57 [(0, .ref 18), (1, .int (iI ((a 3) (i))))] [.long (lI 97), .long (lI ((a 3) (i)))] _ _ _ _
      refine pm_e_rd pm_a151_57 rfl rfl rfl ?_
      refine pm_l_top (y := lI 122) (by decide +kernel) ?_
      show pm_E _ _ _ 60 [(0, .ref 18), (1, .int (iI ((a 3) (i))))] [.long (lI 122), .long (lI 97), .long (lI ((a 3) (i)))] _ _ _ _
      refine pm_e_call (T2 := pm_mm147) pm_a151_60 rfl rfl rfl rfl rfl rfl rfl rfl rfl ?_
      show pm_E none _ _ 0 [(0, .long (lI ((a 3) (i)))), (2, .long (lI 97)), (4, .long (lI 122))] [] _ _ _ _
      refine M_in ⟨by omega, by omega⟩ ⟨by omega, by omega⟩ ⟨by omega, by omega⟩ (fun h_3 => ?_) (fun h_3 => ?_)
      · skip
        show pm_E _ _ _ 63 [(0, .ref 18), (1, .int (iI ((a 3) (i))))] [.int (iI 1)] _ _ _ _
        refine pm_e_iff pm_a151_63 rfl (by decide +kernel) ?_
        show pm_E _ _ _ 66 [(0, .ref 18), (1, .int (iI ((a 3) (i))))] [] _ _ _ _
        refine pm_e_sim pm_a151_66 rfl ?_
        show pm_E _ _ _ 67 [(0, .ref 18), (1, .int (iI ((a 3) (i))))] [.ref 18] _ _ _ _
        refine pm_e_sim pm_a151_67 rfl ?_
        refine pm_e_top (y := iI 1) (by decide +kernel) ?_
        show pm_E _ _ _ 68 [(0, .ref 18), (1, .int (iI ((a 3) (i))))] [.int (iI 1), .ref 18] _ _ _ _
        refine pm_i_put pm_a151_68 rfl (mh_get (j := 0) hA rfl) rfl (Nat.le_of_ble_eq_true rfl) (Or.inl rfl) (mw_11 hA _) ?_
        show pm_E _ _ _ 71 [(0, .ref 18), (1, .int (iI ((a 3) (i))))] [] _ _ _ _
        refine pm_e_heap (congrArg (fun z => mh A z _ _ _ B) updS_3) ?_
        refine M_next_2 (s := updS (updS s 10 i) 11 1) (a := a) hA (fun j => ⟨by have := hb j; omega, by have := hb j; omega⟩) (show 0 ≤ s 4 by omega) (show s 4 ≤ 600 by omega) (show 0 ≤ i by omega) 600 i 0 (show i ≤ i by omega) (by omega) (show i ≤ s 4 by omega) (show s 4 ≤ i + 600 by omega) ?_
        show pm_E none _ _ 144 _ _ (mh A (updS (updS (updS s 10 i) 11 1) 9 (rdl (a 3) 97 122 27 96 8 (s 4) i 600 i 0).1) (lI (rdl (a 3) 97 122 27 96 8 (s 4) i 600 i 0).2) a nm B) _ _ _
        obtain ⟨hj0, hj1⟩ := rdl_le (g := a 3) (lo := 97) (hi := 122) (m := 27) (z := 96) (w := 8) (n := (s 4)) (b := i) 600 i 0 (show i ≤ s 4 by omega)
        exact M_next_2t (s := updS (updS (updS s 10 i) 11 1) 9 (rdl (a 3) 97 122 27 96 8 (s 4) i 600 i 0).1) (a := a) hA (show s 13 = 0 from h13)  (show 0 ≤ (rdl (a 3) 97 122 27 96 8 (s 4) i 600 i 0).1 by omega) (show (rdl (a 3) 97 122 27 96 8 (s 4) i 600 i 0).1 ≤ 600 by omega) (show 0 ≤ i by omega) (show i ≤ 600 by omega) (fun q => kN i _ hI.symm (by omega) (by omega) (by omega) rfl q) (fun q => kNf i _ hI.symm (by omega) (by omega) (by omega) rfl q)
      · skip
        show pm_E _ _ _ 63 [(0, .ref 18), (1, .int (iI ((a 3) (i))))] [.int (iI 0)] _ _ _ _
        refine pm_e_ift pm_a151_63 rfl (by decide +kernel) ?_
        show pm_E _ _ _ 170 [(0, .ref 18), (1, .int (iI ((a 3) (i))))] [] _ _ _ _
        refine pm_e_sim pm_a151_170 rfl ?_
        show pm_E _ _ _ 171 [(0, .ref 18), (1, .int (iI ((a 3) (i))))] [.int (iI ((a 3) (i)))] _ _ _ _
        refine pm_e_sim pm_a151_171 rfl ?_
        refine pm_l_top (y := lI ((a 3) (i))) (iI_l ⟨by omega, by omega⟩) ?_
        show pm_E _ _ _ 172 [(0, .ref 18), (1, .int (iI ((a 3) (i))))] [.long (lI ((a 3) (i)))] _ _ _ _
        refine pm_e_rd pm_a151_172 rfl rfl rfl ?_
        refine pm_l_top (y := lI 48) (by decide +kernel) ?_
        show pm_E _ _ _ 175 [(0, .ref 18), (1, .int (iI ((a 3) (i))))] [.long (lI 48), .long (lI ((a 3) (i)))] _ _ _ _
        refine pm_e_rd pm_a151_175 rfl rfl rfl ?_
        refine pm_l_top (y := lI 57) (by decide +kernel) ?_
        show pm_E _ _ _ 178 [(0, .ref 18), (1, .int (iI ((a 3) (i))))] [.long (lI 57), .long (lI 48), .long (lI ((a 3) (i)))] _ _ _ _
        refine pm_e_call (T2 := pm_mm147) pm_a151_178 rfl rfl rfl rfl rfl rfl rfl rfl rfl ?_
        show pm_E none _ _ 0 [(0, .long (lI ((a 3) (i)))), (2, .long (lI 48)), (4, .long (lI 57))] [] _ _ _ _
        refine M_in ⟨by omega, by omega⟩ ⟨by omega, by omega⟩ ⟨by omega, by omega⟩ (fun h_4 => ?_) (fun h_4 => ?_)
        · skip
          show pm_E _ _ _ 181 [(0, .ref 18), (1, .int (iI ((a 3) (i))))] [.int (iI 1)] _ _ _ _
          refine pm_e_iff pm_a151_181 rfl (by decide +kernel) ?_
          show pm_E _ _ _ 184 [(0, .ref 18), (1, .int (iI ((a 3) (i))))] [] _ _ _ _
          refine pm_e_sim pm_a151_184 rfl ?_
          show pm_E _ _ _ 185 [(0, .ref 18), (1, .int (iI ((a 3) (i))))] [.ref 18] _ _ _ _
          refine pm_e_sim pm_a151_185 rfl ?_
          refine pm_e_top (y := iI 2) (by decide +kernel) ?_
          show pm_E _ _ _ 186 [(0, .ref 18), (1, .int (iI ((a 3) (i))))] [.int (iI 2), .ref 18] _ _ _ _
          refine pm_i_put pm_a151_186 rfl (mh_get (j := 0) hA rfl) rfl (Nat.le_of_ble_eq_true rfl) (Or.inl rfl) (mw_11 hA _) ?_
          show pm_E _ _ _ 189 [(0, .ref 18), (1, .int (iI ((a 3) (i))))] [] _ _ _ _
          refine pm_e_heap (congrArg (fun z => mh A z _ _ _ B) updS_3) ?_
          refine M_next_3 (s := updS (updS s 10 i) 11 2) (a := a) hA (fun j => ⟨by have := hb j; omega, by have := hb j; omega⟩) (show 0 ≤ s 4 by omega) (show s 4 ≤ 600 by omega) (show 0 ≤ i by omega) 600 i 0 (show i ≤ i by omega) (by omega) (show i ≤ s 4 by omega) (show s 4 ≤ i + 600 by omega) ?_
          show pm_E none _ _ 261 _ _ (mh A (updS (updS (updS s 10 i) 11 2) 9 (rdl (a 3) 48 57 10 48 2 (s 4) i 600 i 0).1) (lI (rdl (a 3) 48 57 10 48 2 (s 4) i 600 i 0).2) a nm B) _ _ _
          obtain ⟨hj0, hj1⟩ := rdl_le (g := a 3) (lo := 48) (hi := 57) (m := 10) (z := 48) (w := 2) (n := (s 4)) (b := i) 600 i 0 (show i ≤ s 4 by omega)
          obtain ⟨hw0, hw1⟩ := rdl_v (g := a 3) (n := s 4) (b := i) 600 i 0 (by omega) (by omega) (by omega) (by omega) (by omega)
          exact M_next_3t (s := updS (updS (updS s 10 i) 11 2) 9 (rdl (a 3) 48 57 10 48 2 (s 4) i 600 i 0).1) (a := a) hA (show s 13 = 0 from h13)  (show 0 ≤ (rdl (a 3) 48 57 10 48 2 (s 4) i 600 i 0).1 by omega) (show (rdl (a 3) 48 57 10 48 2 (s 4) i 600 i 0).1 ≤ 600 by omega) (show 0 ≤ i by omega) (show i ≤ 600 by omega) ⟨by omega, by omega⟩ (fun q => kM i _ hI.symm (by omega) (by omega) (by omega) rfl q) (fun q => kMf i _ hI.symm (by omega) (by omega) (by omega) rfl q)
        · skip
          show pm_E _ _ _ 181 [(0, .ref 18), (1, .int (iI ((a 3) (i))))] [.int (iI 0)] _ _ _ _
          refine pm_e_ift pm_a151_181 rfl (by decide +kernel) ?_
          show pm_E _ _ _ 297 [(0, .ref 18), (1, .int (iI ((a 3) (i))))] [] _ _ _ _
          exact M_next_4t (s := updS (updS s 9 i) 10 i) (a := a) hA (show s 13 = 0 from h13) (show 0 ≤ i by omega) (show i ≤ 600 by omega) (by omega) (by omega) (fun q => kL i hI.symm (by omega) (by omega) (by omega) q) (fun q q2 => kS i hI.symm (by omega) q q2) (fun q q1 q2 q3 q4 => kB i hI.symm (by omega) (by omega) (by omega) q q1 q2 q3 q4)
    · skip
      exfalso; omega
  · skip
    replace h_1 : s 4 ≤ i := h_1
    show pm_E _ _ _ 39 [(0, .ref 18)] [.int (iI (-1))] _ _ _ _
    refine pm_e_sim pm_a151_39 rfl ?_
    show pm_E _ _ _ 40 [(0, .ref 18), (1, .int (iI (-1)))] [] _ _ _ _
    refine pm_e_sim pm_a151_40 rfl ?_
    show pm_E _ _ _ 41 [(0, .ref 18), (1, .int (iI (-1)))] [.int (iI (-1))] _ _ _ _
    refine pm_e_iff pm_a151_41 rfl (by decide +kernel) ?_
    show pm_E _ _ _ 44 [(0, .ref 18), (1, .int (iI (-1)))] [] _ _ _ _
    refine pm_e_sim pm_a151_44 rfl ?_
    show pm_E _ _ _ 45 [(0, .ref 18), (1, .int (iI (-1)))] [.ref 18] _ _ _ _
    refine pm_e_sim pm_a151_45 rfl ?_
    refine pm_e_top (y := iI 0) (by decide +kernel) ?_
    show pm_E _ _ _ 46 [(0, .ref 18), (1, .int (iI (-1)))] [.int (iI 0), .ref 18] _ _ _ _
    refine pm_i_put pm_a151_46 rfl (mh_get (j := 0) hA rfl) rfl (Nat.le_of_ble_eq_true rfl) (Or.inl rfl) (mw_11 hA _) ?_
    show pm_E _ _ _ 49 [(0, .ref 18), (1, .int (iI (-1)))] [] _ _ _ _
    refine pm_e_goto pm_a151_49 rfl ?_
    show pm_E _ _ _ 390 [(0, .ref 18), (1, .int (iI (-1)))] [] _ _ _ _
    refine pm_e_ret pm_a151_390 rfl rfl rfl rfl rfl rfl rfl rfl ?_
    exact kE i hI.symm (by omega)
