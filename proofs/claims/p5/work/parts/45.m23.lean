/-! THE REFERENCE: nextRedex, the whole -/
theorem tm_leaf {g : Int → Int} : ∀ {f : Nat} {k p e : Int}, tm g f k p e → 2 ≤ g (e - 1) := by
  intro f
  induction f with
  | zero => intro k p e h; exact h.elim
  | succ f ih =>
    intro k p e h
    rcases h with ⟨_, m, _, h2⟩ | ⟨_, h1⟩ | ⟨h0, _, h1⟩
    · exact ih h2
    · exact ih h1
    · rw [h1, show p + 1 - 1 = p by omega]; exact h0
set_option maxHeartbeats 4000000 in
set_option maxRecDepth 100000 in
theorem M_nextRedex_l {d : Nat} {A B : List va_E} {s : Nat → Int} {vl : Int64} {a : Nat → Int → Int} {nm : Nat → Int64} {Q : Option Value → List va_E → Nat → Nat → Prop} {w kk : Int} {ff : Nat} (hA : A.length = 18) (hr : ∀ j, in32 (a 4 j)) (hz : s 6 ≤ 11900) (ht : tm (a 4) ff kk 0 (s 6)) (hb : ∀ j, 0 ≤ j → j < s 6 → 0 ≤ a 4 j ∧ a 4 j ≤ 100000) (hw : 0 ≤ w ∧ w ≤ 3 ∧ w ≠ 2) : ∀ (f : Nat) (p l : Int) (P D : Int → Int), 0 ≤ p → p + f = s 6 → (∀ q, 0 ≤ q → q < p → ¬ cnd (a 4) w q) → (l = -4 ∨ (0 ≤ l ∧ l < p ∧ (∃ j, l < j ∧ j < s 6 ∧ rdx (a 4) j = 1) ∧ ∀ q, l < q → q < p → rdx (a 4) q = 0)) → (w = 3 → l = -4) → (∀ r P D, nrx (a 4) (s 6) w r → Q (some (.int (iI r))) (mh A s vl (updA (updA a 5 D) 6 P) nm B) 0 0) → pm_E none (d + 3) pm_mm179 51 [(0, .ref 18), (1, .int (iI w)), (2, .int (iI l)), (3, .int (iI p))] [] (mh A s vl (updA (updA a 5 D) 6 P) nm B) 0 0 Q := by
  intro f
  induction f with
  | zero =>
    intro p l P D h0 h1 hp hl hl3 k
    refine pm_e_sim pm_a179_51 rfl ?_
    show pm_E _ _ _ 52 [(0, .ref 18), (1, .int (iI w)), (2, .int (iI l)), (3, .int (iI p))] [.int (iI p)] _ _ _ _
    refine pm_e_sim pm_a179_52 rfl ?_
    show pm_E _ _ _ 53 [(0, .ref 18), (1, .int (iI w)), (2, .int (iI l)), (3, .int (iI p))] [.ref 18, .int (iI p)] _ _ _ _
    refine pm_i_get pm_a179_53 rfl (mh_get (j := 0) hA rfl) rfl ?_
    show pm_E _ _ _ 56 [(0, .ref 18), (1, .int (iI w)), (2, .int (iI l)), (3, .int (iI p))] [.int (iI (s 6)), .int (iI p)] _ _ _ _
    refine pm_c_ge (t := 106) pm_a179_56 rfl ⟨by omega, by omega⟩ ⟨by omega, by omega⟩ (fun h_1 => ?_) (fun h_1 => ?_)
    · skip
      show pm_E _ _ _ 106 [(0, .ref 18), (1, .int (iI w)), (2, .int (iI l)), (3, .int (iI p))] [] _ _ _ _
      refine pm_e_sim pm_a179_106 rfl ?_
      show pm_E _ _ _ 107 [(0, .ref 18), (1, .int (iI w)), (2, .int (iI l)), (3, .int (iI p))] [.int (iI w)] _ _ _ _
      refine pm_e_sim pm_a179_107 rfl ?_
      refine pm_e_top (y := iI 1) (by decide +kernel) ?_
      show pm_E _ _ _ 108 [(0, .ref 18), (1, .int (iI w)), (2, .int (iI l)), (3, .int (iI p))] [.int (iI 1), .int (iI w)] _ _ _ _
      refine pm_c_ne (t := 115) pm_a179_108 rfl ⟨by omega, by omega⟩ ⟨by omega, by omega⟩ (fun h_2 => ?_) (fun h_2 => ?_)
      · skip
        show pm_E _ _ _ 115 [(0, .ref 18), (1, .int (iI w)), (2, .int (iI l)), (3, .int (iI p))] [] _ _ _ _
        refine pm_e_sim pm_a179_115 rfl ?_
        refine pm_e_top (y := iI (-4)) (by decide +kernel) ?_
        show pm_E _ _ _ 117 [(0, .ref 18), (1, .int (iI w)), (2, .int (iI l)), (3, .int (iI p))] [.int (iI (-4))] _ _ _ _
        refine pm_e_ret pm_a179_117 rfl rfl rfl rfl rfl rfl rfl rfl ?_
        exact k (-4) P D (Or.inl ⟨rfl, fun q z y => hp q z (by omega)⟩)
      · skip
        show pm_E _ _ _ 111 [(0, .ref 18), (1, .int (iI w)), (2, .int (iI l)), (3, .int (iI p))] [] _ _ _ _
        refine pm_e_sim pm_a179_111 rfl ?_
        show pm_E _ _ _ 112 [(0, .ref 18), (1, .int (iI w)), (2, .int (iI l)), (3, .int (iI p))] [.int (iI l)] _ _ _ _
        refine pm_e_goto pm_a179_112 rfl ?_
        show pm_E _ _ _ 117 [(0, .ref 18), (1, .int (iI w)), (2, .int (iI l)), (3, .int (iI p))] [.int (iI l)] _ _ _ _
        refine pm_e_ret pm_a179_117 rfl rfl rfl rfl rfl rfl rfl rfl ?_
        rcases hl with hl | ⟨l1, l2, ⟨j, j1, j2, j3⟩, l4⟩
        · subst hl; exact k (-4) P D (Or.inl ⟨rfl, fun q z y => hp q z (by omega)⟩)
        · have := l4 j j1 (by omega); omega
    · skip
      exfalso; omega
  | succ f ih =>
    intro p l P D h0 h1 hp hl hl3 k
    obtain ⟨fp, kp, ep, tp, ep1, _, _, _⟩ := tm_sub ht p (by omega) (by omega)
    have lp := tm_lt tp
    refine pm_e_sim pm_a179_51 rfl ?_
    show pm_E _ _ _ 52 [(0, .ref 18), (1, .int (iI w)), (2, .int (iI l)), (3, .int (iI p))] [.int (iI p)] _ _ _ _
    refine pm_e_sim pm_a179_52 rfl ?_
    show pm_E _ _ _ 53 [(0, .ref 18), (1, .int (iI w)), (2, .int (iI l)), (3, .int (iI p))] [.ref 18, .int (iI p)] _ _ _ _
    refine pm_i_get pm_a179_53 rfl (mh_get (j := 0) hA rfl) rfl ?_
    show pm_E _ _ _ 56 [(0, .ref 18), (1, .int (iI w)), (2, .int (iI l)), (3, .int (iI p))] [.int (iI (s 6)), .int (iI p)] _ _ _ _
    refine pm_c_ge (t := 106) pm_a179_56 rfl ⟨by omega, by omega⟩ ⟨by omega, by omega⟩ (fun h_1 => ?_) (fun h_1 => ?_)
    · skip
      exfalso; omega
    · skip
      show pm_E _ _ _ 59 [(0, .ref 18), (1, .int (iI w)), (2, .int (iI l)), (3, .int (iI p))] [] _ _ _ _
      refine pm_e_sim pm_a179_59 rfl ?_
      show pm_E _ _ _ 60 [(0, .ref 18), (1, .int (iI w)), (2, .int (iI l)), (3, .int (iI p))] [.int (iI w)] _ _ _ _
      refine pm_e_sim pm_a179_60 rfl ?_
      refine pm_e_top (y := iI 3) (by decide +kernel) ?_
      show pm_E _ _ _ 61 [(0, .ref 18), (1, .int (iI w)), (2, .int (iI l)), (3, .int (iI p))] [.int (iI 3), .int (iI w)] _ _ _ _
      refine pm_c_ne (t := 75) pm_a179_61 rfl ⟨by omega, by omega⟩ ⟨by omega, by omega⟩ (fun h_2 => ?_) (fun h_2 => ?_)
      · skip
        show pm_E _ _ _ 75 [(0, .ref 18), (1, .int (iI w)), (2, .int (iI l)), (3, .int (iI p))] [] _ _ _ _
        refine pm_e_sim pm_a179_75 rfl ?_
        show pm_E _ _ _ 76 [(0, .ref 18), (1, .int (iI w)), (2, .int (iI l)), (3, .int (iI p))] [.ref 18] _ _ _ _
        refine pm_e_sim pm_a179_76 rfl ?_
        show pm_E _ _ _ 77 [(0, .ref 18), (1, .int (iI w)), (2, .int (iI l)), (3, .int (iI p))] [.int (iI p), .ref 18] _ _ _ _
        refine pm_i_callv (k := 18) (T2 := pm_mm180) pm_a179_77 rfl rfl rfl (mh_get (j := 0) hA rfl) ⟨Nat.le_of_ble_eq_true rfl, Nat.le_of_ble_eq_true rfl, rfl, by decide +kernel⟩ ?_
        show pm_E none _ _ 0 [(0, .ref 18), (1, .int (iI p))] [] _ _ _ _
        refine M_isRedex (a := updA (updA a 5 D) 6 P) hA hr (by omega) (by omega) (fun r1 e1 => ?_)
        replace e1 : rdx (a 4) p = r1 := e1
        have b1 := rdx_in (a 4) p
        rw [e1] at b1
        show pm_E _ _ _ 80 [(0, .ref 18), (1, .int (iI w)), (2, .int (iI l)), (3, .int (iI p))] [.int (iI r1)] _ _ _ _
        refine pm_i_eq (t := 100) pm_a179_80 rfl ⟨by omega, by omega⟩ (fun h_3 => ?_) (fun h_3 => ?_)
        · skip
          show pm_E _ _ _ 100 [(0, .ref 18), (1, .int (iI w)), (2, .int (iI l)), (3, .int (iI p))] [] _ _ _ _
          refine pm_e_inc (y := iI (p + 1)) pm_a179_100 rfl (iI_add _ _) (by decide +kernel) rfl ?_
          show pm_E _ _ _ 103 [(0, .ref 18), (1, .int (iI w)), (2, .int (iI l)), (3, .int (iI (p + 1)))] [] _ _ _ _
          refine pm_e_goto pm_a179_103 rfl ?_
          show pm_E _ _ _ 51 [(0, .ref 18), (1, .int (iI w)), (2, .int (iI l)), (3, .int (iI (p + 1)))] [] _ _ _ _
          have np : ¬ cnd (a 4) w p := by
            intro c
            rcases c with ⟨c, _⟩ | ⟨_, c, _⟩
            · omega
            · omega
          have hl2 : l = -4 ∨ (0 ≤ l ∧ l < p + 1 ∧ (∃ j, l < j ∧ j < s 6 ∧ rdx (a 4) j = 1) ∧ ∀ q, l < q → q < p + 1 → rdx (a 4) q = 0) := by
            rcases hl with hl | ⟨l1, l2, l3, l4⟩
            · exact Or.inl hl
            · exact Or.inr ⟨l1, by omega, l3, fun q z y => if hq : q = p then (by subst hq; omega) else l4 q z (by omega)⟩
          exact ih (p + 1) l P D (by omega) (by omega) (fun q z y => if hq : q = p then (by rw [hq]; exact np) else hp q z (by omega)) hl2 (by omega) k
        · skip
          show pm_E _ _ _ 83 [(0, .ref 18), (1, .int (iI w)), (2, .int (iI l)), (3, .int (iI p))] [] _ _ _ _
          refine pm_e_sim pm_a179_83 rfl ?_
          show pm_E _ _ _ 84 [(0, .ref 18), (1, .int (iI w)), (2, .int (iI l)), (3, .int (iI p))] [.int (iI w)] _ _ _ _
          refine pm_e_sim pm_a179_84 rfl ?_
          refine pm_e_top (y := iI 1) (by decide +kernel) ?_
          show pm_E _ _ _ 85 [(0, .ref 18), (1, .int (iI w)), (2, .int (iI l)), (3, .int (iI p))] [.int (iI 1), .int (iI w)] _ _ _ _
          refine pm_c_ne (t := 96) pm_a179_85 rfl ⟨by omega, by omega⟩ ⟨by omega, by omega⟩ (fun h_4 => ?_) (fun h_4 => ?_)
          · skip
            show pm_E _ _ _ 96 [(0, .ref 18), (1, .int (iI w)), (2, .int (iI l)), (3, .int (iI p))] [] _ _ _ _
            refine pm_e_sim pm_a179_96 rfl ?_
            show pm_E _ _ _ 97 [(0, .ref 18), (1, .int (iI w)), (2, .int (iI l)), (3, .int (iI p))] [.int (iI p)] _ _ _ _
            refine pm_e_ret pm_a179_97 rfl rfl rfl rfl rfl rfl rfl rfl ?_
            clear hl hl3
            exact k p P D (Or.inr ⟨by omega, by omega, Or.inr ⟨by omega, by omega, fun z => by omega, fun z => by omega⟩, hp⟩)
          · skip
            show pm_E _ _ _ 88 [(0, .ref 18), (1, .int (iI w)), (2, .int (iI l)), (3, .int (iI p))] [] _ _ _ _
            refine pm_e_sim pm_a179_88 rfl ?_
            show pm_E _ _ _ 89 [(0, .ref 18), (1, .int (iI w)), (2, .int (iI l)), (3, .int (iI p))] [.ref 18] _ _ _ _
            refine pm_e_sim pm_a179_89 rfl ?_
            show pm_E _ _ _ 90 [(0, .ref 18), (1, .int (iI w)), (2, .int (iI l)), (3, .int (iI p))] [.int (iI p), .ref 18] _ _ _ _
            refine pm_i_callv (k := 18) (T2 := pm_mm183) pm_a179_90 rfl rfl rfl (mh_get (j := 0) hA rfl) ⟨Nat.le_of_ble_eq_true rfl, Nat.le_of_ble_eq_true rfl, rfl, by decide +kernel⟩ ?_
            show pm_E none _ _ 0 [(0, .ref 18), (1, .int (iI p))] [] _ _ _ _
            refine M_hasWithin (a := updA (updA a 5 D) 6 P) hA hr tp (by omega) (by omega) (fun h_5 => ?_) (fun h_5 => ?_)
            · skip
              show pm_E _ _ _ 93 [(0, .ref 18), (1, .int (iI w)), (2, .int (iI l)), (3, .int (iI p))] [.int (iI 1)] _ _ _ _
              refine pm_e_ift pm_a179_93 rfl (by decide +kernel) ?_
              show pm_E _ _ _ 98 [(0, .ref 18), (1, .int (iI w)), (2, .int (iI l)), (3, .int (iI p))] [] _ _ _ _
              refine pm_e_sim pm_a179_98 rfl ?_
              show pm_E _ _ _ 99 [(0, .ref 18), (1, .int (iI w)), (2, .int (iI l)), (3, .int (iI p))] [.int (iI p)] _ _ _ _
              refine pm_e_sim pm_a179_99 rfl ?_
              show pm_E _ _ _ 100 [(0, .ref 18), (1, .int (iI w)), (2, .int (iI p)), (3, .int (iI p))] [] _ _ _ _
              refine pm_e_inc (y := iI (p + 1)) pm_a179_100 rfl (iI_add _ _) (by decide +kernel) rfl ?_
              show pm_E _ _ _ 103 [(0, .ref 18), (1, .int (iI w)), (2, .int (iI p)), (3, .int (iI (p + 1)))] [] _ _ _ _
              refine pm_e_goto pm_a179_103 rfl ?_
              show pm_E _ _ _ 51 [(0, .ref 18), (1, .int (iI w)), (2, .int (iI p)), (3, .int (iI (p + 1)))] [] _ _ _ _
              have np : ¬ cnd (a 4) w p := by
                intro c
                rcases c with ⟨c, _⟩ | ⟨_, _, c, _⟩
                · omega
                · obtain ⟨j, j1, j2, j3⟩ := h_5
                  have j4 : rdx (a 4) j = 1 := j3
                  have := c (by omega) _ _ _ tp j j1 j2
                  omega
              have hl2 : p = -4 ∨ (0 ≤ p ∧ p < p + 1 ∧ (∃ j, p < j ∧ j < s 6 ∧ rdx (a 4) j = 1) ∧ ∀ q, p < q → q < p + 1 → rdx (a 4) q = 0) := by
                obtain ⟨j, j1, j2, j3⟩ := h_5
                exact Or.inr ⟨by omega, by omega, ⟨j, j1, by omega, j3⟩, fun q z y => by omega⟩
              exact ih (p + 1) p P D (by omega) (by omega) (fun q z y => if hq : q = p then (by rw [hq]; exact np) else hp q z (by omega)) hl2 (by omega) k
            · skip
              show pm_E _ _ _ 93 [(0, .ref 18), (1, .int (iI w)), (2, .int (iI l)), (3, .int (iI p))] [.int (iI 0)] _ _ _ _
              refine pm_e_iff pm_a179_93 rfl (by decide +kernel) ?_
              show pm_E _ _ _ 96 [(0, .ref 18), (1, .int (iI w)), (2, .int (iI l)), (3, .int (iI p))] [] _ _ _ _
              refine pm_e_sim pm_a179_96 rfl ?_
              show pm_E _ _ _ 97 [(0, .ref 18), (1, .int (iI w)), (2, .int (iI l)), (3, .int (iI p))] [.int (iI p)] _ _ _ _
              refine pm_e_ret pm_a179_97 rfl rfl rfl rfl rfl rfl rfl rfl ?_
              clear hl hl3
              exact k p P D (Or.inr ⟨by omega, by omega, Or.inr ⟨by omega, by omega, fun _ m f1 k1 t1 => by rw [← tm_one tp t1]; exact h_5, fun z => by omega⟩, hp⟩)
      · skip
        show pm_E _ _ _ 64 [(0, .ref 18), (1, .int (iI w)), (2, .int (iI l)), (3, .int (iI p))] [] _ _ _ _
        refine pm_e_sim pm_a179_64 rfl ?_
        show pm_E _ _ _ 65 [(0, .ref 18), (1, .int (iI w)), (2, .int (iI l)), (3, .int (iI p))] [.ref 18] _ _ _ _
        refine pm_e_sim pm_a179_65 rfl ?_
        show pm_E _ _ _ 66 [(0, .ref 18), (1, .int (iI w)), (2, .int (iI l)), (3, .int (iI p))] [.int (iI p), .ref 18] _ _ _ _
        refine pm_i_callv (k := 18) (T2 := pm_mm181) pm_a179_66 rfl rfl rfl (mh_get (j := 0) hA rfl) ⟨Nat.le_of_ble_eq_true rfl, Nat.le_of_ble_eq_true rfl, rfl, by decide +kernel⟩ ?_
        show pm_E none _ _ 0 [(0, .ref 18), (1, .int (iI p))] [] _ _ _ _
        refine M_isThin (a := updA (updA a 5 D) 6 P) hA hr tp (by omega) (by omega) (fun j z y => hb j (by omega) (by omega)) (fun r P2 D2 r01 rif _ => ?_)
        refine pm_e_heap (show _ = mh A s vl (updA (updA a 5 D2) 6 P2) nm B from by rw [updA_i (by decide), updA_i (by decide)]) ?_
        replace rif : r = 1 ↔ thn (a 4) p := rif
        show pm_E _ _ _ 69 [(0, .ref 18), (1, .int (iI w)), (2, .int (iI l)), (3, .int (iI p))] [.int (iI r)] _ _ _ _
        refine pm_i_eq (t := 100) pm_a179_69 rfl ⟨by omega, by omega⟩ (fun h_6 => ?_) (fun h_6 => ?_)
        · skip
          show pm_E _ _ _ 100 [(0, .ref 18), (1, .int (iI w)), (2, .int (iI l)), (3, .int (iI p))] [] _ _ _ _
          refine pm_e_inc (y := iI (p + 1)) pm_a179_100 rfl (iI_add _ _) (by decide +kernel) rfl ?_
          show pm_E _ _ _ 103 [(0, .ref 18), (1, .int (iI w)), (2, .int (iI l)), (3, .int (iI (p + 1)))] [] _ _ _ _
          refine pm_e_goto pm_a179_103 rfl ?_
          show pm_E _ _ _ 51 [(0, .ref 18), (1, .int (iI w)), (2, .int (iI l)), (3, .int (iI (p + 1)))] [] _ _ _ _
          have np : ¬ cnd (a 4) w p := by
            intro c
            rcases c with ⟨_, c⟩ | ⟨c, _⟩
            · have := rif.mpr c; omega
            · omega
          have hl2 : l = -4 ∨ (0 ≤ l ∧ l < p + 1 ∧ (∃ j, l < j ∧ j < s 6 ∧ rdx (a 4) j = 1) ∧ ∀ q, l < q → q < p + 1 → rdx (a 4) q = 0) := Or.inl (hl3 (by omega))
          exact ih (p + 1) l P2 D2 (by omega) (by omega) (fun q z y => if hq : q = p then (by rw [hq]; exact np) else hp q z (by omega)) hl2 (by omega) k
        · skip
          show pm_E _ _ _ 72 [(0, .ref 18), (1, .int (iI w)), (2, .int (iI l)), (3, .int (iI p))] [] _ _ _ _
          refine pm_e_goto pm_a179_72 rfl ?_
          show pm_E _ _ _ 83 [(0, .ref 18), (1, .int (iI w)), (2, .int (iI l)), (3, .int (iI p))] [] _ _ _ _
          refine pm_e_sim pm_a179_83 rfl ?_
          show pm_E _ _ _ 84 [(0, .ref 18), (1, .int (iI w)), (2, .int (iI l)), (3, .int (iI p))] [.int (iI w)] _ _ _ _
          refine pm_e_sim pm_a179_84 rfl ?_
          refine pm_e_top (y := iI 1) (by decide +kernel) ?_
          show pm_E _ _ _ 85 [(0, .ref 18), (1, .int (iI w)), (2, .int (iI l)), (3, .int (iI p))] [.int (iI 1), .int (iI w)] _ _ _ _
          refine pm_c_ne (t := 96) pm_a179_85 rfl ⟨by omega, by omega⟩ ⟨by omega, by omega⟩ (fun h_7 => ?_) (fun h_7 => ?_)
          · skip
            show pm_E _ _ _ 96 [(0, .ref 18), (1, .int (iI w)), (2, .int (iI l)), (3, .int (iI p))] [] _ _ _ _
            refine pm_e_sim pm_a179_96 rfl ?_
            show pm_E _ _ _ 97 [(0, .ref 18), (1, .int (iI w)), (2, .int (iI l)), (3, .int (iI p))] [.int (iI p)] _ _ _ _
            refine pm_e_ret pm_a179_97 rfl rfl rfl rfl rfl rfl rfl rfl ?_
            clear hl hl3
            exact k p P2 D2 (Or.inr ⟨by omega, by omega, Or.inl ⟨by omega, rif.mp (by omega)⟩, hp⟩)
          · skip
            exfalso; omega
set_option maxHeartbeats 4000000 in
set_option maxRecDepth 100000 in
theorem M_nextRedex {d : Nat} {A B : List va_E} {s : Nat → Int} {vl : Int64} {a : Nat → Int → Int} {nm : Nat → Int64} {Q : Option Value → List va_E → Nat → Nat → Prop} {w kk : Int} {ff : Nat} (hA : A.length = 18) (hr : ∀ j, in32 (a 4 j)) (hz : s 6 ≤ 11900) (ht : tm (a 4) ff kk 0 (s 6)) (hb : ∀ j, 0 ≤ j → j < s 6 → 0 ≤ a 4 j ∧ a 4 j ≤ 100000) (hw0 : 0 ≤ w) (hw1 : w ≤ 3) (k : (∀ r P D, nrx (a 4) (s 6) w r → Q (some (.int (iI r))) (mh A s vl (updA (updA a 5 D) 6 P) nm B) 0 0)) : pm_E none (d + 3) pm_mm179 0 [(0, .ref 18), (1, .int (iI w))] [] (mh A s vl a nm B) 0 0 Q := by
  have hlt := tm_lt ht
  refine pm_e_sim pm_a179_0 rfl ?_
  show pm_E _ _ _ 1 [(0, .ref 18), (1, .int (iI w))] [.int (iI w)] _ _ _ _
  refine pm_e_sim pm_a179_1 rfl ?_
  refine pm_e_top (y := iI 2) (by decide +kernel) ?_
  show pm_E _ _ _ 2 [(0, .ref 18), (1, .int (iI w))] [.int (iI 2), .int (iI w)] _ _ _ _
  refine pm_c_ne (t := 46) pm_a179_2 rfl ⟨by omega, by omega⟩ ⟨by omega, by omega⟩ (fun h_1 => ?_) (fun h_1 => ?_)
  · skip
    show pm_E _ _ _ 46 [(0, .ref 18), (1, .int (iI w))] [] _ _ _ _
    refine pm_e_sim pm_a179_46 rfl ?_
    refine pm_e_top (y := iI (-4)) (by decide +kernel) ?_
    show pm_E _ _ _ 48 [(0, .ref 18), (1, .int (iI w))] [.int (iI (-4))] _ _ _ _
    refine pm_e_sim pm_a179_48 rfl ?_
    show pm_E _ _ _ 49 [(0, .ref 18), (1, .int (iI w)), (2, .int (iI (-4)))] [] _ _ _ _
    refine pm_e_sim pm_a179_49 rfl ?_
    refine pm_e_top (y := iI 0) (by decide +kernel) ?_
    show pm_E _ _ _ 50 [(0, .ref 18), (1, .int (iI w)), (2, .int (iI (-4)))] [.int (iI 0)] _ _ _ _
    refine pm_e_sim pm_a179_50 rfl ?_
    show pm_E _ _ _ 51 [(0, .ref 18), (1, .int (iI w)), (2, .int (iI (-4))), (3, .int (iI 0))] [] _ _ _ _
    refine pm_e_heap (show mh A s vl a nm B = mh A s vl (updA (updA a 5 (a 5)) 6 (a 6)) nm B from by rw [updA_self, updA_self]) ?_
    exact M_nextRedex_l hA hr hz ht hb ⟨by omega, by omega, by omega⟩ (s 6).toNat 0 (-4) (a 6) (a 5) (by omega) (by omega) (fun q z y => by omega) (Or.inl rfl) (fun _ => rfl) k
  · skip
    show pm_E _ _ _ 5 [(0, .ref 18), (1, .int (iI w))] [] _ _ _ _
    refine pm_e_sim pm_a179_5 rfl ?_
    refine pm_e_top (y := iI 0) (by decide +kernel) ?_
    show pm_E _ _ _ 6 [(0, .ref 18), (1, .int (iI w))] [.int (iI 0)] _ _ _ _
    refine pm_e_sim pm_a179_6 rfl ?_
    show pm_E _ _ _ 7 [(0, .ref 18), (1, .int (iI w)), (2, .int (iI 0))] [] _ _ _ _
    have hw2 : w = 2 := by omega
    subst hw2
    have lf := tm_leaf ht
    refine M_head_l hA hr hz ⟨s 6 - 1, by omega, by omega, by omega⟩ (s 6).toNat 0 (by omega) (by omega) (fun q z y => by omega) (fun r hrx => ?_)
    have := k r (a 6) (a 5) hrx
    rw [updA_self, updA_self] at this
    exact this
