/-! THE REFERENCE: next, the loops over a name and over a number -/
/-- over bytes from lo to hi: where they end, and their value to base m (less z each) over the first w of them -/
def rdl (g : Int → Int) (lo hi m z w n b : Int) : Nat → Int → Int → Int × Int
  | 0, i, v => (i, v)
  | f + 1, i, v => if i < n ∧ lo ≤ g i ∧ g i ≤ hi then rdl g lo hi m z w n b f (i + 1) (if i - b < w then ((m * v) + g i) - z else v) else (i, v)
theorem rdl_y {g : Int → Int} {lo hi m z w n b i v : Int} {f : Nat} (h : i < n) (h1 : lo ≤ g i) (h2 : g i ≤ hi) (h3 : i - b < w) : rdl g lo hi m z w n b (f + 1) i v = rdl g lo hi m z w n b f (i + 1) (((m * v) + g i) - z) := by
  rw [rdl, if_pos ⟨h, h1, h2⟩, if_pos h3]
theorem rdl_z {g : Int → Int} {lo hi m z w n b i v : Int} {f : Nat} (h : i < n) (h1 : lo ≤ g i) (h2 : g i ≤ hi) (h3 : w ≤ i - b) : rdl g lo hi m z w n b (f + 1) i v = rdl g lo hi m z w n b f (i + 1) v := by
  rw [rdl, if_pos ⟨h, h1, h2⟩, if_neg (by omega)]
theorem rdl_n {g : Int → Int} {lo hi m z w n b i v : Int} {f : Nat} (h : n ≤ i ∨ g i < lo ∨ hi < g i) : rdl g lo hi m z w n b f i v = (i, v) := by
  cases f with
  | zero => rfl
  | succ f => rw [rdl, if_neg (by omega)]
theorem rdl_le {g : Int → Int} {lo hi m z w n b : Int} : ∀ (f : Nat) (i v : Int), i ≤ n → i ≤ (rdl g lo hi m z w n b f i v).1 ∧ (rdl g lo hi m z w n b f i v).1 ≤ n
  | 0, i, v, h => ⟨Int.le_refl _, h⟩
  | f + 1, i, v, h => by
    unfold rdl
    split
    · rename_i q
      have := rdl_le (g := g) (lo := lo) (hi := hi) (m := m) (z := z) (w := w) (n := n) (b := b) f (i + 1) (if i - b < w then ((m * v) + g i) - z else v) (by omega)
      omega
    · exact ⟨Int.le_refl _, h⟩
set_option maxHeartbeats 4000000 in
set_option maxRecDepth 100000 in
theorem M_next_2 {d : Nat} {A B : List va_E} {s : Nat → Int} {a : Nat → Int → Int} {nm : Nat → Int64} {Q : Option Value → List va_E → Nat → Nat → Prop} {c : Int} (hA : A.length = 18) (hr : ∀ j, in32 (a 3 j)) (h4 : 0 ≤ s 4) (h5 : s 4 ≤ 600) (hb : 0 ≤ s 10) : ∀ (f : Nat) (i v : Int), s 10 ≤ i → 0 ≤ i → i ≤ s 4 → s 4 ≤ i + f → pm_E none (d + 1) pm_mm151 144 [(0, .ref 18), (1, .int (iI c))] [] (mh A (updS s 9 (rdl (a 3) 97 122 27 96 8 (s 4) (s 10) f i v).1) (lI (rdl (a 3) 97 122 27 96 8 (s 4) (s 10) f i v).2) a nm B) 0 0 Q → pm_E none (d + 1) pm_mm151 71 [(0, .ref 18), (1, .int (iI c))] [] (mh A (updS s 9 i) (lI v) a nm B) 0 0 Q := by
  intro f
  induction f with
  | zero =>
    intro i v hb1 hi0 hi1 hi2 k
    have hr1 := hr i
    refine pm_e_sim pm_a151_71 rfl ?_
    show pm_E _ _ _ 72 [(0, .ref 18), (1, .int (iI c))] [.ref 18] _ _ _ _
    refine pm_i_callv (k := 18) (T2 := pm_mm152) pm_a151_72 rfl rfl rfl (mh_get (j := 0) hA rfl) ⟨Nat.le_of_ble_eq_true rfl, Nat.le_of_ble_eq_true rfl, rfl, by decide +kernel⟩ ?_
    show pm_E none _ _ 0 [(0, .ref 18)] [] _ _ _ _
    refine M_look hA (show 0 ≤ i by omega) (show i ≤ 100000 by omega) (show 0 ≤ s 4 by omega) (show s 4 ≤ 600 by omega) (fun h_1 => ?_) (fun h_1 => ?_)
    · skip
      replace h_1 : i < s 4 := h_1
      show pm_E _ _ _ 75 [(0, .ref 18), (1, .int (iI c))] [.int (iI ((a 3) (i)))] _ _ _ _
      refine pm_e_sim pm_a151_75 rfl ?_
      refine pm_l_top (y := lI ((a 3) (i))) (iI_l ⟨by omega, by omega⟩) ?_
      show pm_E _ _ _ 76 [(0, .ref 18), (1, .int (iI c))] [.long (lI ((a 3) (i)))] _ _ _ _
      refine pm_e_rd pm_a151_76 rfl rfl rfl ?_
      refine pm_l_top (y := lI 97) (by decide +kernel) ?_
      show pm_E _ _ _ 79 [(0, .ref 18), (1, .int (iI c))] [.long (lI 97), .long (lI ((a 3) (i)))] _ _ _ _
      refine pm_e_rd pm_a151_79 rfl rfl rfl ?_
      refine pm_l_top (y := lI 122) (by decide +kernel) ?_
      show pm_E _ _ _ 82 [(0, .ref 18), (1, .int (iI c))] [.long (lI 122), .long (lI 97), .long (lI ((a 3) (i)))] _ _ _ _
      refine pm_e_call (T2 := pm_mm147) pm_a151_82 rfl rfl rfl rfl rfl rfl rfl rfl rfl ?_
      show pm_E none _ _ 0 [(0, .long (lI ((a 3) (i)))), (2, .long (lI 97)), (4, .long (lI 122))] [] _ _ _ _
      refine M_in ⟨by omega, by omega⟩ ⟨by omega, by omega⟩ ⟨by omega, by omega⟩ (fun h_2 => ?_) (fun h_2 => ?_)
      · skip
        show pm_E _ _ _ 85 [(0, .ref 18), (1, .int (iI c))] [.int (iI 1)] _ _ _ _
        refine pm_e_iff pm_a151_85 rfl (by decide +kernel) ?_
        show pm_E _ _ _ 88 [(0, .ref 18), (1, .int (iI c))] [] _ _ _ _
        refine pm_e_sim pm_a151_88 rfl ?_
        show pm_E _ _ _ 89 [(0, .ref 18), (1, .int (iI c))] [.ref 18] _ _ _ _
        refine pm_e_sim pm_a151_89 rfl ?_
        show pm_E _ _ _ 90 [(0, .ref 18), (1, .int (iI c))] [.ref 18, .ref 18] _ _ _ _
        refine pm_i_get pm_a151_90 rfl (mh_get (j := 0) hA rfl) rfl ?_
        show pm_E _ _ _ 93 [(0, .ref 18), (1, .int (iI c))] [.int (iI i), .ref 18] _ _ _ _
        refine pm_e_sim pm_a151_93 rfl ?_
        show pm_E _ _ _ 94 [(0, .ref 18), (1, .int (iI c))] [.ref 18, .int (iI i), .ref 18] _ _ _ _
        refine pm_i_get pm_a151_94 rfl (mh_get (j := 0) hA rfl) rfl ?_
        show pm_E _ _ _ 97 [(0, .ref 18), (1, .int (iI c))] [.int (iI (s 10)), .int (iI i), .ref 18] _ _ _ _
        refine pm_e_sim pm_a151_97 rfl ?_
        refine pm_e_top (y := iI (i - (s 10))) (iI_sub _ _) ?_
        show pm_E _ _ _ 98 [(0, .ref 18), (1, .int (iI c))] [.int (iI (i - (s 10))), .ref 18] _ _ _ _
        refine pm_e_sim pm_a151_98 rfl ?_
        refine pm_e_top (y := iI 8) (by decide +kernel) ?_
        show pm_E _ _ _ 100 [(0, .ref 18), (1, .int (iI c))] [.int (iI 8), .int (iI (i - (s 10))), .ref 18] _ _ _ _
        refine pm_c_ge (t := 124) pm_a151_100 rfl ⟨by omega, by omega⟩ ⟨by omega, by omega⟩ (fun h_3 => ?_) (fun h_3 => ?_)
        · skip
          show pm_E _ _ _ 124 [(0, .ref 18), (1, .int (iI c))] [.ref 18] _ _ _ _
          refine pm_e_sim pm_a151_124 rfl ?_
          show pm_E _ _ _ 125 [(0, .ref 18), (1, .int (iI c))] [.ref 18, .ref 18] _ _ _ _
          refine pm_i_get pm_a151_125 rfl (mh_get (j := 0) hA rfl) rfl ?_
          show pm_E _ _ _ 128 [(0, .ref 18), (1, .int (iI c))] [.long (lI v), .ref 18] _ _ _ _
          refine pm_i_put pm_a151_128 rfl (mh_get (j := 0) hA rfl) rfl (Nat.le_of_ble_eq_true rfl) (Or.inl rfl) (mw_l hA _) ?_
          show pm_E _ _ _ 131 [(0, .ref 18), (1, .int (iI c))] [] _ _ _ _
          refine pm_e_sim pm_a151_131 rfl ?_
          show pm_E _ _ _ 132 [(0, .ref 18), (1, .int (iI c))] [.ref 18] _ _ _ _
          refine pm_e_sim pm_a151_132 rfl ?_
          show pm_E _ _ _ 133 [(0, .ref 18), (1, .int (iI c))] [.ref 18, .ref 18] _ _ _ _
          refine pm_i_get pm_a151_133 rfl (mh_get (j := 0) hA rfl) rfl ?_
          show pm_E _ _ _ 136 [(0, .ref 18), (1, .int (iI c))] [.int (iI i), .ref 18] _ _ _ _
          refine pm_e_sim pm_a151_136 rfl ?_
          refine pm_e_top (y := iI 1) (by decide +kernel) ?_
          show pm_E _ _ _ 137 [(0, .ref 18), (1, .int (iI c))] [.int (iI 1), .int (iI i), .ref 18] _ _ _ _
          refine pm_e_sim pm_a151_137 rfl ?_
          refine pm_e_top (y := iI (i + 1)) (iI_add _ _) ?_
          show pm_E _ _ _ 138 [(0, .ref 18), (1, .int (iI c))] [.int (iI (i + 1)), .ref 18] _ _ _ _
          refine pm_i_put pm_a151_138 rfl (mh_get (j := 0) hA rfl) rfl (Nat.le_of_ble_eq_true rfl) (Or.inl rfl) ((mw_9 hA _).trans (congrArg (fun z => mh A z _ _ _ B) (updS_s))) ?_
          show pm_E _ _ _ 141 [(0, .ref 18), (1, .int (iI c))] [] _ _ _ _
          refine pm_e_goto pm_a151_141 rfl ?_
          show pm_E _ _ _ 71 [(0, .ref 18), (1, .int (iI c))] [] _ _ _ _
          exfalso; omega
        · skip
          show pm_E _ _ _ 103 [(0, .ref 18), (1, .int (iI c))] [.ref 18] _ _ _ _
          refine pm_e_rd pm_a151_103 rfl rfl rfl ?_
          refine pm_l_top (y := lI 27) (by decide +kernel) ?_
          show pm_E _ _ _ 106 [(0, .ref 18), (1, .int (iI c))] [.long (lI 27), .ref 18] _ _ _ _
          refine pm_e_sim pm_a151_106 rfl ?_
          show pm_E _ _ _ 107 [(0, .ref 18), (1, .int (iI c))] [.ref 18, .long (lI 27), .ref 18] _ _ _ _
          refine pm_i_get pm_a151_107 rfl (mh_get (j := 0) hA rfl) rfl ?_
          show pm_E _ _ _ 110 [(0, .ref 18), (1, .int (iI c))] [.long (lI v), .long (lI 27), .ref 18] _ _ _ _
          refine pm_e_sim pm_a151_110 rfl ?_
          refine pm_l_top (y := lI (27 * v)) (lI_mul _ _) ?_
          show pm_E _ _ _ 111 [(0, .ref 18), (1, .int (iI c))] [.long (lI (27 * v)), .ref 18] _ _ _ _
          refine pm_e_sim pm_a151_111 rfl ?_
          show pm_E _ _ _ 112 [(0, .ref 18), (1, .int (iI c))] [.ref 18, .long (lI (27 * v)), .ref 18] _ _ _ _
          refine pm_i_callv (k := 18) (T2 := pm_mm152) pm_a151_112 rfl rfl rfl (mh_get (j := 0) hA rfl) ⟨Nat.le_of_ble_eq_true rfl, Nat.le_of_ble_eq_true rfl, rfl, by decide +kernel⟩ ?_
          show pm_E none _ _ 0 [(0, .ref 18)] [] _ _ _ _
          refine M_look hA (show 0 ≤ i by omega) (show i ≤ 100000 by omega) (show 0 ≤ s 4 by omega) (show s 4 ≤ 600 by omega) (fun h_4 => ?_) (fun h_4 => ?_)
          · skip
            replace h_4 : i < s 4 := h_4
            show pm_E _ _ _ 115 [(0, .ref 18), (1, .int (iI c))] [.int (iI ((a 3) (i))), .long (lI (27 * v)), .ref 18] _ _ _ _
            refine pm_e_sim pm_a151_115 rfl ?_
            refine pm_l_top (y := lI ((a 3) (i))) (iI_l ⟨by omega, by omega⟩) ?_
            show pm_E _ _ _ 116 [(0, .ref 18), (1, .int (iI c))] [.long (lI ((a 3) (i))), .long (lI (27 * v)), .ref 18] _ _ _ _
            refine pm_e_sim pm_a151_116 rfl ?_
            refine pm_l_top (y := lI ((27 * v) + ((a 3) (i)))) (lI_add _ _) ?_
            show pm_E _ _ _ 117 [(0, .ref 18), (1, .int (iI c))] [.long (lI ((27 * v) + ((a 3) (i)))), .ref 18] _ _ _ _
            refine pm_e_rd pm_a151_117 rfl rfl rfl ?_
            refine pm_l_top (y := lI 96) (by decide +kernel) ?_
            show pm_E _ _ _ 120 [(0, .ref 18), (1, .int (iI c))] [.long (lI 96), .long (lI ((27 * v) + ((a 3) (i)))), .ref 18] _ _ _ _
            refine pm_e_sim pm_a151_120 rfl ?_
            refine pm_l_top (y := lI (((27 * v) + ((a 3) (i))) - 96)) (lI_sub _ _) ?_
            show pm_E _ _ _ 121 [(0, .ref 18), (1, .int (iI c))] [.long (lI (((27 * v) + ((a 3) (i))) - 96)), .ref 18] _ _ _ _
            refine pm_e_goto pm_a151_121 rfl ?_
            show pm_E _ _ _ 128 [(0, .ref 18), (1, .int (iI c))] [.long (lI (((27 * v) + ((a 3) (i))) - 96)), .ref 18] _ _ _ _
            refine pm_i_put pm_a151_128 rfl (mh_get (j := 0) hA rfl) rfl (Nat.le_of_ble_eq_true rfl) (Or.inl rfl) (mw_l hA _) ?_
            show pm_E _ _ _ 131 [(0, .ref 18), (1, .int (iI c))] [] _ _ _ _
            refine pm_e_sim pm_a151_131 rfl ?_
            show pm_E _ _ _ 132 [(0, .ref 18), (1, .int (iI c))] [.ref 18] _ _ _ _
            refine pm_e_sim pm_a151_132 rfl ?_
            show pm_E _ _ _ 133 [(0, .ref 18), (1, .int (iI c))] [.ref 18, .ref 18] _ _ _ _
            refine pm_i_get pm_a151_133 rfl (mh_get (j := 0) hA rfl) rfl ?_
            show pm_E _ _ _ 136 [(0, .ref 18), (1, .int (iI c))] [.int (iI i), .ref 18] _ _ _ _
            refine pm_e_sim pm_a151_136 rfl ?_
            refine pm_e_top (y := iI 1) (by decide +kernel) ?_
            show pm_E _ _ _ 137 [(0, .ref 18), (1, .int (iI c))] [.int (iI 1), .int (iI i), .ref 18] _ _ _ _
            refine pm_e_sim pm_a151_137 rfl ?_
            refine pm_e_top (y := iI (i + 1)) (iI_add _ _) ?_
            show pm_E _ _ _ 138 [(0, .ref 18), (1, .int (iI c))] [.int (iI (i + 1)), .ref 18] _ _ _ _
            refine pm_i_put pm_a151_138 rfl (mh_get (j := 0) hA rfl) rfl (Nat.le_of_ble_eq_true rfl) (Or.inl rfl) ((mw_9 hA _).trans (congrArg (fun z => mh A z _ _ _ B) (updS_s))) ?_
            show pm_E _ _ _ 141 [(0, .ref 18), (1, .int (iI c))] [] _ _ _ _
            refine pm_e_goto pm_a151_141 rfl ?_
            show pm_E _ _ _ 71 [(0, .ref 18), (1, .int (iI c))] [] _ _ _ _
            exfalso; omega
          · skip
            replace h_4 : s 4 ≤ i := h_4
            show pm_E _ _ _ 115 [(0, .ref 18), (1, .int (iI c))] [.int (iI (-1)), .long (lI (27 * v)), .ref 18] _ _ _ _
            refine pm_e_sim pm_a151_115 rfl ?_
            refine pm_l_top (y := lI ((-1))) (iI_l ⟨by omega, by omega⟩) ?_
            show pm_E _ _ _ 116 [(0, .ref 18), (1, .int (iI c))] [.long (lI (-1)), .long (lI (27 * v)), .ref 18] _ _ _ _
            refine pm_e_sim pm_a151_116 rfl ?_
            refine pm_l_top (y := lI ((27 * v) + (-1))) (lI_add _ _) ?_
            show pm_E _ _ _ 117 [(0, .ref 18), (1, .int (iI c))] [.long (lI ((27 * v) + (-1))), .ref 18] _ _ _ _
            refine pm_e_rd pm_a151_117 rfl rfl rfl ?_
            refine pm_l_top (y := lI 96) (by decide +kernel) ?_
            show pm_E _ _ _ 120 [(0, .ref 18), (1, .int (iI c))] [.long (lI 96), .long (lI ((27 * v) + (-1))), .ref 18] _ _ _ _
            refine pm_e_sim pm_a151_120 rfl ?_
            refine pm_l_top (y := lI (((27 * v) + (-1)) - 96)) (lI_sub _ _) ?_
            show pm_E _ _ _ 121 [(0, .ref 18), (1, .int (iI c))] [.long (lI (((27 * v) + (-1)) - 96)), .ref 18] _ _ _ _
            refine pm_e_goto pm_a151_121 rfl ?_
            show pm_E _ _ _ 128 [(0, .ref 18), (1, .int (iI c))] [.long (lI (((27 * v) + (-1)) - 96)), .ref 18] _ _ _ _
            refine pm_i_put pm_a151_128 rfl (mh_get (j := 0) hA rfl) rfl (Nat.le_of_ble_eq_true rfl) (Or.inl rfl) (mw_l hA _) ?_
            show pm_E _ _ _ 131 [(0, .ref 18), (1, .int (iI c))] [] _ _ _ _
            refine pm_e_sim pm_a151_131 rfl ?_
            show pm_E _ _ _ 132 [(0, .ref 18), (1, .int (iI c))] [.ref 18] _ _ _ _
            refine pm_e_sim pm_a151_132 rfl ?_
            show pm_E _ _ _ 133 [(0, .ref 18), (1, .int (iI c))] [.ref 18, .ref 18] _ _ _ _
            refine pm_i_get pm_a151_133 rfl (mh_get (j := 0) hA rfl) rfl ?_
            show pm_E _ _ _ 136 [(0, .ref 18), (1, .int (iI c))] [.int (iI i), .ref 18] _ _ _ _
            refine pm_e_sim pm_a151_136 rfl ?_
            refine pm_e_top (y := iI 1) (by decide +kernel) ?_
            show pm_E _ _ _ 137 [(0, .ref 18), (1, .int (iI c))] [.int (iI 1), .int (iI i), .ref 18] _ _ _ _
            refine pm_e_sim pm_a151_137 rfl ?_
            refine pm_e_top (y := iI (i + 1)) (iI_add _ _) ?_
            show pm_E _ _ _ 138 [(0, .ref 18), (1, .int (iI c))] [.int (iI (i + 1)), .ref 18] _ _ _ _
            refine pm_i_put pm_a151_138 rfl (mh_get (j := 0) hA rfl) rfl (Nat.le_of_ble_eq_true rfl) (Or.inl rfl) ((mw_9 hA _).trans (congrArg (fun z => mh A z _ _ _ B) (updS_s))) ?_
            show pm_E _ _ _ 141 [(0, .ref 18), (1, .int (iI c))] [] _ _ _ _
            refine pm_e_goto pm_a151_141 rfl ?_
            show pm_E _ _ _ 71 [(0, .ref 18), (1, .int (iI c))] [] _ _ _ _
            exfalso; omega
      · skip
        show pm_E _ _ _ 85 [(0, .ref 18), (1, .int (iI c))] [.int (iI 0)] _ _ _ _
        refine pm_e_ift pm_a151_85 rfl (by decide +kernel) ?_
        show pm_E _ _ _ 144 [(0, .ref 18), (1, .int (iI c))] [] _ _ _ _
        rw [rdl_n (by omega)] at k
        exact k
    · skip
      replace h_1 : s 4 ≤ i := h_1
      show pm_E _ _ _ 75 [(0, .ref 18), (1, .int (iI c))] [.int (iI (-1))] _ _ _ _
      refine pm_e_sim pm_a151_75 rfl ?_
      refine pm_l_top (y := lI ((-1))) (iI_l ⟨by omega, by omega⟩) ?_
      show pm_E _ _ _ 76 [(0, .ref 18), (1, .int (iI c))] [.long (lI (-1))] _ _ _ _
      refine pm_e_rd pm_a151_76 rfl rfl rfl ?_
      refine pm_l_top (y := lI 97) (by decide +kernel) ?_
      show pm_E _ _ _ 79 [(0, .ref 18), (1, .int (iI c))] [.long (lI 97), .long (lI (-1))] _ _ _ _
      refine pm_e_rd pm_a151_79 rfl rfl rfl ?_
      refine pm_l_top (y := lI 122) (by decide +kernel) ?_
      show pm_E _ _ _ 82 [(0, .ref 18), (1, .int (iI c))] [.long (lI 122), .long (lI 97), .long (lI (-1))] _ _ _ _
      refine pm_e_call (T2 := pm_mm147) pm_a151_82 rfl rfl rfl rfl rfl rfl rfl rfl rfl ?_
      show pm_E none _ _ 0 [(0, .long (lI (-1))), (2, .long (lI 97)), (4, .long (lI 122))] [] _ _ _ _
      refine M_in ⟨by omega, by omega⟩ ⟨by omega, by omega⟩ ⟨by omega, by omega⟩ (fun h_5 => ?_) (fun h_5 => ?_)
      · skip
        show pm_E _ _ _ 85 [(0, .ref 18), (1, .int (iI c))] [.int (iI 1)] _ _ _ _
        refine pm_e_iff pm_a151_85 rfl (by decide +kernel) ?_
        show pm_E _ _ _ 88 [(0, .ref 18), (1, .int (iI c))] [] _ _ _ _
        refine pm_e_sim pm_a151_88 rfl ?_
        show pm_E _ _ _ 89 [(0, .ref 18), (1, .int (iI c))] [.ref 18] _ _ _ _
        refine pm_e_sim pm_a151_89 rfl ?_
        show pm_E _ _ _ 90 [(0, .ref 18), (1, .int (iI c))] [.ref 18, .ref 18] _ _ _ _
        refine pm_i_get pm_a151_90 rfl (mh_get (j := 0) hA rfl) rfl ?_
        show pm_E _ _ _ 93 [(0, .ref 18), (1, .int (iI c))] [.int (iI i), .ref 18] _ _ _ _
        refine pm_e_sim pm_a151_93 rfl ?_
        show pm_E _ _ _ 94 [(0, .ref 18), (1, .int (iI c))] [.ref 18, .int (iI i), .ref 18] _ _ _ _
        refine pm_i_get pm_a151_94 rfl (mh_get (j := 0) hA rfl) rfl ?_
        show pm_E _ _ _ 97 [(0, .ref 18), (1, .int (iI c))] [.int (iI (s 10)), .int (iI i), .ref 18] _ _ _ _
        refine pm_e_sim pm_a151_97 rfl ?_
        refine pm_e_top (y := iI (i - (s 10))) (iI_sub _ _) ?_
        show pm_E _ _ _ 98 [(0, .ref 18), (1, .int (iI c))] [.int (iI (i - (s 10))), .ref 18] _ _ _ _
        refine pm_e_sim pm_a151_98 rfl ?_
        refine pm_e_top (y := iI 8) (by decide +kernel) ?_
        show pm_E _ _ _ 100 [(0, .ref 18), (1, .int (iI c))] [.int (iI 8), .int (iI (i - (s 10))), .ref 18] _ _ _ _
        refine pm_c_ge (t := 124) pm_a151_100 rfl ⟨by omega, by omega⟩ ⟨by omega, by omega⟩ (fun h_6 => ?_) (fun h_6 => ?_)
        · skip
          show pm_E _ _ _ 124 [(0, .ref 18), (1, .int (iI c))] [.ref 18] _ _ _ _
          refine pm_e_sim pm_a151_124 rfl ?_
          show pm_E _ _ _ 125 [(0, .ref 18), (1, .int (iI c))] [.ref 18, .ref 18] _ _ _ _
          refine pm_i_get pm_a151_125 rfl (mh_get (j := 0) hA rfl) rfl ?_
          show pm_E _ _ _ 128 [(0, .ref 18), (1, .int (iI c))] [.long (lI v), .ref 18] _ _ _ _
          refine pm_i_put pm_a151_128 rfl (mh_get (j := 0) hA rfl) rfl (Nat.le_of_ble_eq_true rfl) (Or.inl rfl) (mw_l hA _) ?_
          show pm_E _ _ _ 131 [(0, .ref 18), (1, .int (iI c))] [] _ _ _ _
          refine pm_e_sim pm_a151_131 rfl ?_
          show pm_E _ _ _ 132 [(0, .ref 18), (1, .int (iI c))] [.ref 18] _ _ _ _
          refine pm_e_sim pm_a151_132 rfl ?_
          show pm_E _ _ _ 133 [(0, .ref 18), (1, .int (iI c))] [.ref 18, .ref 18] _ _ _ _
          refine pm_i_get pm_a151_133 rfl (mh_get (j := 0) hA rfl) rfl ?_
          show pm_E _ _ _ 136 [(0, .ref 18), (1, .int (iI c))] [.int (iI i), .ref 18] _ _ _ _
          refine pm_e_sim pm_a151_136 rfl ?_
          refine pm_e_top (y := iI 1) (by decide +kernel) ?_
          show pm_E _ _ _ 137 [(0, .ref 18), (1, .int (iI c))] [.int (iI 1), .int (iI i), .ref 18] _ _ _ _
          refine pm_e_sim pm_a151_137 rfl ?_
          refine pm_e_top (y := iI (i + 1)) (iI_add _ _) ?_
          show pm_E _ _ _ 138 [(0, .ref 18), (1, .int (iI c))] [.int (iI (i + 1)), .ref 18] _ _ _ _
          refine pm_i_put pm_a151_138 rfl (mh_get (j := 0) hA rfl) rfl (Nat.le_of_ble_eq_true rfl) (Or.inl rfl) ((mw_9 hA _).trans (congrArg (fun z => mh A z _ _ _ B) (updS_s))) ?_
          show pm_E _ _ _ 141 [(0, .ref 18), (1, .int (iI c))] [] _ _ _ _
          refine pm_e_goto pm_a151_141 rfl ?_
          show pm_E _ _ _ 71 [(0, .ref 18), (1, .int (iI c))] [] _ _ _ _
          exfalso; omega
        · skip
          show pm_E _ _ _ 103 [(0, .ref 18), (1, .int (iI c))] [.ref 18] _ _ _ _
          refine pm_e_rd pm_a151_103 rfl rfl rfl ?_
          refine pm_l_top (y := lI 27) (by decide +kernel) ?_
          show pm_E _ _ _ 106 [(0, .ref 18), (1, .int (iI c))] [.long (lI 27), .ref 18] _ _ _ _
          refine pm_e_sim pm_a151_106 rfl ?_
          show pm_E _ _ _ 107 [(0, .ref 18), (1, .int (iI c))] [.ref 18, .long (lI 27), .ref 18] _ _ _ _
          refine pm_i_get pm_a151_107 rfl (mh_get (j := 0) hA rfl) rfl ?_
          show pm_E _ _ _ 110 [(0, .ref 18), (1, .int (iI c))] [.long (lI v), .long (lI 27), .ref 18] _ _ _ _
          refine pm_e_sim pm_a151_110 rfl ?_
          refine pm_l_top (y := lI (27 * v)) (lI_mul _ _) ?_
          show pm_E _ _ _ 111 [(0, .ref 18), (1, .int (iI c))] [.long (lI (27 * v)), .ref 18] _ _ _ _
          refine pm_e_sim pm_a151_111 rfl ?_
          show pm_E _ _ _ 112 [(0, .ref 18), (1, .int (iI c))] [.ref 18, .long (lI (27 * v)), .ref 18] _ _ _ _
          refine pm_i_callv (k := 18) (T2 := pm_mm152) pm_a151_112 rfl rfl rfl (mh_get (j := 0) hA rfl) ⟨Nat.le_of_ble_eq_true rfl, Nat.le_of_ble_eq_true rfl, rfl, by decide +kernel⟩ ?_
          show pm_E none _ _ 0 [(0, .ref 18)] [] _ _ _ _
          refine M_look hA (show 0 ≤ i by omega) (show i ≤ 100000 by omega) (show 0 ≤ s 4 by omega) (show s 4 ≤ 600 by omega) (fun h_7 => ?_) (fun h_7 => ?_)
          · skip
            replace h_7 : i < s 4 := h_7
            show pm_E _ _ _ 115 [(0, .ref 18), (1, .int (iI c))] [.int (iI ((a 3) (i))), .long (lI (27 * v)), .ref 18] _ _ _ _
            refine pm_e_sim pm_a151_115 rfl ?_
            refine pm_l_top (y := lI ((a 3) (i))) (iI_l ⟨by omega, by omega⟩) ?_
            show pm_E _ _ _ 116 [(0, .ref 18), (1, .int (iI c))] [.long (lI ((a 3) (i))), .long (lI (27 * v)), .ref 18] _ _ _ _
            refine pm_e_sim pm_a151_116 rfl ?_
            refine pm_l_top (y := lI ((27 * v) + ((a 3) (i)))) (lI_add _ _) ?_
            show pm_E _ _ _ 117 [(0, .ref 18), (1, .int (iI c))] [.long (lI ((27 * v) + ((a 3) (i)))), .ref 18] _ _ _ _
            refine pm_e_rd pm_a151_117 rfl rfl rfl ?_
            refine pm_l_top (y := lI 96) (by decide +kernel) ?_
            show pm_E _ _ _ 120 [(0, .ref 18), (1, .int (iI c))] [.long (lI 96), .long (lI ((27 * v) + ((a 3) (i)))), .ref 18] _ _ _ _
            refine pm_e_sim pm_a151_120 rfl ?_
            refine pm_l_top (y := lI (((27 * v) + ((a 3) (i))) - 96)) (lI_sub _ _) ?_
            show pm_E _ _ _ 121 [(0, .ref 18), (1, .int (iI c))] [.long (lI (((27 * v) + ((a 3) (i))) - 96)), .ref 18] _ _ _ _
            refine pm_e_goto pm_a151_121 rfl ?_
            show pm_E _ _ _ 128 [(0, .ref 18), (1, .int (iI c))] [.long (lI (((27 * v) + ((a 3) (i))) - 96)), .ref 18] _ _ _ _
            refine pm_i_put pm_a151_128 rfl (mh_get (j := 0) hA rfl) rfl (Nat.le_of_ble_eq_true rfl) (Or.inl rfl) (mw_l hA _) ?_
            show pm_E _ _ _ 131 [(0, .ref 18), (1, .int (iI c))] [] _ _ _ _
            refine pm_e_sim pm_a151_131 rfl ?_
            show pm_E _ _ _ 132 [(0, .ref 18), (1, .int (iI c))] [.ref 18] _ _ _ _
            refine pm_e_sim pm_a151_132 rfl ?_
            show pm_E _ _ _ 133 [(0, .ref 18), (1, .int (iI c))] [.ref 18, .ref 18] _ _ _ _
            refine pm_i_get pm_a151_133 rfl (mh_get (j := 0) hA rfl) rfl ?_
            show pm_E _ _ _ 136 [(0, .ref 18), (1, .int (iI c))] [.int (iI i), .ref 18] _ _ _ _
            refine pm_e_sim pm_a151_136 rfl ?_
            refine pm_e_top (y := iI 1) (by decide +kernel) ?_
            show pm_E _ _ _ 137 [(0, .ref 18), (1, .int (iI c))] [.int (iI 1), .int (iI i), .ref 18] _ _ _ _
            refine pm_e_sim pm_a151_137 rfl ?_
            refine pm_e_top (y := iI (i + 1)) (iI_add _ _) ?_
            show pm_E _ _ _ 138 [(0, .ref 18), (1, .int (iI c))] [.int (iI (i + 1)), .ref 18] _ _ _ _
            refine pm_i_put pm_a151_138 rfl (mh_get (j := 0) hA rfl) rfl (Nat.le_of_ble_eq_true rfl) (Or.inl rfl) ((mw_9 hA _).trans (congrArg (fun z => mh A z _ _ _ B) (updS_s))) ?_
            show pm_E _ _ _ 141 [(0, .ref 18), (1, .int (iI c))] [] _ _ _ _
            refine pm_e_goto pm_a151_141 rfl ?_
            show pm_E _ _ _ 71 [(0, .ref 18), (1, .int (iI c))] [] _ _ _ _
            exfalso; omega
          · skip
            replace h_7 : s 4 ≤ i := h_7
            show pm_E _ _ _ 115 [(0, .ref 18), (1, .int (iI c))] [.int (iI (-1)), .long (lI (27 * v)), .ref 18] _ _ _ _
            refine pm_e_sim pm_a151_115 rfl ?_
            refine pm_l_top (y := lI ((-1))) (iI_l ⟨by omega, by omega⟩) ?_
            show pm_E _ _ _ 116 [(0, .ref 18), (1, .int (iI c))] [.long (lI (-1)), .long (lI (27 * v)), .ref 18] _ _ _ _
            refine pm_e_sim pm_a151_116 rfl ?_
            refine pm_l_top (y := lI ((27 * v) + (-1))) (lI_add _ _) ?_
            show pm_E _ _ _ 117 [(0, .ref 18), (1, .int (iI c))] [.long (lI ((27 * v) + (-1))), .ref 18] _ _ _ _
            refine pm_e_rd pm_a151_117 rfl rfl rfl ?_
            refine pm_l_top (y := lI 96) (by decide +kernel) ?_
            show pm_E _ _ _ 120 [(0, .ref 18), (1, .int (iI c))] [.long (lI 96), .long (lI ((27 * v) + (-1))), .ref 18] _ _ _ _
            refine pm_e_sim pm_a151_120 rfl ?_
            refine pm_l_top (y := lI (((27 * v) + (-1)) - 96)) (lI_sub _ _) ?_
            show pm_E _ _ _ 121 [(0, .ref 18), (1, .int (iI c))] [.long (lI (((27 * v) + (-1)) - 96)), .ref 18] _ _ _ _
            refine pm_e_goto pm_a151_121 rfl ?_
            show pm_E _ _ _ 128 [(0, .ref 18), (1, .int (iI c))] [.long (lI (((27 * v) + (-1)) - 96)), .ref 18] _ _ _ _
            refine pm_i_put pm_a151_128 rfl (mh_get (j := 0) hA rfl) rfl (Nat.le_of_ble_eq_true rfl) (Or.inl rfl) (mw_l hA _) ?_
            show pm_E _ _ _ 131 [(0, .ref 18), (1, .int (iI c))] [] _ _ _ _
            refine pm_e_sim pm_a151_131 rfl ?_
            show pm_E _ _ _ 132 [(0, .ref 18), (1, .int (iI c))] [.ref 18] _ _ _ _
            refine pm_e_sim pm_a151_132 rfl ?_
            show pm_E _ _ _ 133 [(0, .ref 18), (1, .int (iI c))] [.ref 18, .ref 18] _ _ _ _
            refine pm_i_get pm_a151_133 rfl (mh_get (j := 0) hA rfl) rfl ?_
            show pm_E _ _ _ 136 [(0, .ref 18), (1, .int (iI c))] [.int (iI i), .ref 18] _ _ _ _
            refine pm_e_sim pm_a151_136 rfl ?_
            refine pm_e_top (y := iI 1) (by decide +kernel) ?_
            show pm_E _ _ _ 137 [(0, .ref 18), (1, .int (iI c))] [.int (iI 1), .int (iI i), .ref 18] _ _ _ _
            refine pm_e_sim pm_a151_137 rfl ?_
            refine pm_e_top (y := iI (i + 1)) (iI_add _ _) ?_
            show pm_E _ _ _ 138 [(0, .ref 18), (1, .int (iI c))] [.int (iI (i + 1)), .ref 18] _ _ _ _
            refine pm_i_put pm_a151_138 rfl (mh_get (j := 0) hA rfl) rfl (Nat.le_of_ble_eq_true rfl) (Or.inl rfl) ((mw_9 hA _).trans (congrArg (fun z => mh A z _ _ _ B) (updS_s))) ?_
            show pm_E _ _ _ 141 [(0, .ref 18), (1, .int (iI c))] [] _ _ _ _
            refine pm_e_goto pm_a151_141 rfl ?_
            show pm_E _ _ _ 71 [(0, .ref 18), (1, .int (iI c))] [] _ _ _ _
            exfalso; omega
      · skip
        show pm_E _ _ _ 85 [(0, .ref 18), (1, .int (iI c))] [.int (iI 0)] _ _ _ _
        refine pm_e_ift pm_a151_85 rfl (by decide +kernel) ?_
        show pm_E _ _ _ 144 [(0, .ref 18), (1, .int (iI c))] [] _ _ _ _
        rw [rdl_n (by omega)] at k
        exact k
  | succ f ih =>
    intro i v hb1 hi0 hi1 hi2 k
    have hr1 := hr i
    refine pm_e_sim pm_a151_71 rfl ?_
    show pm_E _ _ _ 72 [(0, .ref 18), (1, .int (iI c))] [.ref 18] _ _ _ _
    refine pm_i_callv (k := 18) (T2 := pm_mm152) pm_a151_72 rfl rfl rfl (mh_get (j := 0) hA rfl) ⟨Nat.le_of_ble_eq_true rfl, Nat.le_of_ble_eq_true rfl, rfl, by decide +kernel⟩ ?_
    show pm_E none _ _ 0 [(0, .ref 18)] [] _ _ _ _
    refine M_look hA (show 0 ≤ i by omega) (show i ≤ 100000 by omega) (show 0 ≤ s 4 by omega) (show s 4 ≤ 600 by omega) (fun h_1 => ?_) (fun h_1 => ?_)
    · skip
      replace h_1 : i < s 4 := h_1
      show pm_E _ _ _ 75 [(0, .ref 18), (1, .int (iI c))] [.int (iI ((a 3) (i)))] _ _ _ _
      refine pm_e_sim pm_a151_75 rfl ?_
      refine pm_l_top (y := lI ((a 3) (i))) (iI_l ⟨by omega, by omega⟩) ?_
      show pm_E _ _ _ 76 [(0, .ref 18), (1, .int (iI c))] [.long (lI ((a 3) (i)))] _ _ _ _
      refine pm_e_rd pm_a151_76 rfl rfl rfl ?_
      refine pm_l_top (y := lI 97) (by decide +kernel) ?_
      show pm_E _ _ _ 79 [(0, .ref 18), (1, .int (iI c))] [.long (lI 97), .long (lI ((a 3) (i)))] _ _ _ _
      refine pm_e_rd pm_a151_79 rfl rfl rfl ?_
      refine pm_l_top (y := lI 122) (by decide +kernel) ?_
      show pm_E _ _ _ 82 [(0, .ref 18), (1, .int (iI c))] [.long (lI 122), .long (lI 97), .long (lI ((a 3) (i)))] _ _ _ _
      refine pm_e_call (T2 := pm_mm147) pm_a151_82 rfl rfl rfl rfl rfl rfl rfl rfl rfl ?_
      show pm_E none _ _ 0 [(0, .long (lI ((a 3) (i)))), (2, .long (lI 97)), (4, .long (lI 122))] [] _ _ _ _
      refine M_in ⟨by omega, by omega⟩ ⟨by omega, by omega⟩ ⟨by omega, by omega⟩ (fun h_2 => ?_) (fun h_2 => ?_)
      · skip
        show pm_E _ _ _ 85 [(0, .ref 18), (1, .int (iI c))] [.int (iI 1)] _ _ _ _
        refine pm_e_iff pm_a151_85 rfl (by decide +kernel) ?_
        show pm_E _ _ _ 88 [(0, .ref 18), (1, .int (iI c))] [] _ _ _ _
        refine pm_e_sim pm_a151_88 rfl ?_
        show pm_E _ _ _ 89 [(0, .ref 18), (1, .int (iI c))] [.ref 18] _ _ _ _
        refine pm_e_sim pm_a151_89 rfl ?_
        show pm_E _ _ _ 90 [(0, .ref 18), (1, .int (iI c))] [.ref 18, .ref 18] _ _ _ _
        refine pm_i_get pm_a151_90 rfl (mh_get (j := 0) hA rfl) rfl ?_
        show pm_E _ _ _ 93 [(0, .ref 18), (1, .int (iI c))] [.int (iI i), .ref 18] _ _ _ _
        refine pm_e_sim pm_a151_93 rfl ?_
        show pm_E _ _ _ 94 [(0, .ref 18), (1, .int (iI c))] [.ref 18, .int (iI i), .ref 18] _ _ _ _
        refine pm_i_get pm_a151_94 rfl (mh_get (j := 0) hA rfl) rfl ?_
        show pm_E _ _ _ 97 [(0, .ref 18), (1, .int (iI c))] [.int (iI (s 10)), .int (iI i), .ref 18] _ _ _ _
        refine pm_e_sim pm_a151_97 rfl ?_
        refine pm_e_top (y := iI (i - (s 10))) (iI_sub _ _) ?_
        show pm_E _ _ _ 98 [(0, .ref 18), (1, .int (iI c))] [.int (iI (i - (s 10))), .ref 18] _ _ _ _
        refine pm_e_sim pm_a151_98 rfl ?_
        refine pm_e_top (y := iI 8) (by decide +kernel) ?_
        show pm_E _ _ _ 100 [(0, .ref 18), (1, .int (iI c))] [.int (iI 8), .int (iI (i - (s 10))), .ref 18] _ _ _ _
        refine pm_c_ge (t := 124) pm_a151_100 rfl ⟨by omega, by omega⟩ ⟨by omega, by omega⟩ (fun h_3 => ?_) (fun h_3 => ?_)
        · skip
          show pm_E _ _ _ 124 [(0, .ref 18), (1, .int (iI c))] [.ref 18] _ _ _ _
          refine pm_e_sim pm_a151_124 rfl ?_
          show pm_E _ _ _ 125 [(0, .ref 18), (1, .int (iI c))] [.ref 18, .ref 18] _ _ _ _
          refine pm_i_get pm_a151_125 rfl (mh_get (j := 0) hA rfl) rfl ?_
          show pm_E _ _ _ 128 [(0, .ref 18), (1, .int (iI c))] [.long (lI v), .ref 18] _ _ _ _
          refine pm_i_put pm_a151_128 rfl (mh_get (j := 0) hA rfl) rfl (Nat.le_of_ble_eq_true rfl) (Or.inl rfl) (mw_l hA _) ?_
          show pm_E _ _ _ 131 [(0, .ref 18), (1, .int (iI c))] [] _ _ _ _
          refine pm_e_sim pm_a151_131 rfl ?_
          show pm_E _ _ _ 132 [(0, .ref 18), (1, .int (iI c))] [.ref 18] _ _ _ _
          refine pm_e_sim pm_a151_132 rfl ?_
          show pm_E _ _ _ 133 [(0, .ref 18), (1, .int (iI c))] [.ref 18, .ref 18] _ _ _ _
          refine pm_i_get pm_a151_133 rfl (mh_get (j := 0) hA rfl) rfl ?_
          show pm_E _ _ _ 136 [(0, .ref 18), (1, .int (iI c))] [.int (iI i), .ref 18] _ _ _ _
          refine pm_e_sim pm_a151_136 rfl ?_
          refine pm_e_top (y := iI 1) (by decide +kernel) ?_
          show pm_E _ _ _ 137 [(0, .ref 18), (1, .int (iI c))] [.int (iI 1), .int (iI i), .ref 18] _ _ _ _
          refine pm_e_sim pm_a151_137 rfl ?_
          refine pm_e_top (y := iI (i + 1)) (iI_add _ _) ?_
          show pm_E _ _ _ 138 [(0, .ref 18), (1, .int (iI c))] [.int (iI (i + 1)), .ref 18] _ _ _ _
          refine pm_i_put pm_a151_138 rfl (mh_get (j := 0) hA rfl) rfl (Nat.le_of_ble_eq_true rfl) (Or.inl rfl) ((mw_9 hA _).trans (congrArg (fun z => mh A z _ _ _ B) (updS_s))) ?_
          show pm_E _ _ _ 141 [(0, .ref 18), (1, .int (iI c))] [] _ _ _ _
          refine pm_e_goto pm_a151_141 rfl ?_
          show pm_E _ _ _ 71 [(0, .ref 18), (1, .int (iI c))] [] _ _ _ _
          rw [rdl_z (by omega) (by omega) (by omega) (by omega)] at k
          exact ih (i + 1) _ (by omega) (by omega) (by omega) (by omega) k
        · skip
          show pm_E _ _ _ 103 [(0, .ref 18), (1, .int (iI c))] [.ref 18] _ _ _ _
          refine pm_e_rd pm_a151_103 rfl rfl rfl ?_
          refine pm_l_top (y := lI 27) (by decide +kernel) ?_
          show pm_E _ _ _ 106 [(0, .ref 18), (1, .int (iI c))] [.long (lI 27), .ref 18] _ _ _ _
          refine pm_e_sim pm_a151_106 rfl ?_
          show pm_E _ _ _ 107 [(0, .ref 18), (1, .int (iI c))] [.ref 18, .long (lI 27), .ref 18] _ _ _ _
          refine pm_i_get pm_a151_107 rfl (mh_get (j := 0) hA rfl) rfl ?_
          show pm_E _ _ _ 110 [(0, .ref 18), (1, .int (iI c))] [.long (lI v), .long (lI 27), .ref 18] _ _ _ _
          refine pm_e_sim pm_a151_110 rfl ?_
          refine pm_l_top (y := lI (27 * v)) (lI_mul _ _) ?_
          show pm_E _ _ _ 111 [(0, .ref 18), (1, .int (iI c))] [.long (lI (27 * v)), .ref 18] _ _ _ _
          refine pm_e_sim pm_a151_111 rfl ?_
          show pm_E _ _ _ 112 [(0, .ref 18), (1, .int (iI c))] [.ref 18, .long (lI (27 * v)), .ref 18] _ _ _ _
          refine pm_i_callv (k := 18) (T2 := pm_mm152) pm_a151_112 rfl rfl rfl (mh_get (j := 0) hA rfl) ⟨Nat.le_of_ble_eq_true rfl, Nat.le_of_ble_eq_true rfl, rfl, by decide +kernel⟩ ?_
          show pm_E none _ _ 0 [(0, .ref 18)] [] _ _ _ _
          refine M_look hA (show 0 ≤ i by omega) (show i ≤ 100000 by omega) (show 0 ≤ s 4 by omega) (show s 4 ≤ 600 by omega) (fun h_4 => ?_) (fun h_4 => ?_)
          · skip
            replace h_4 : i < s 4 := h_4
            show pm_E _ _ _ 115 [(0, .ref 18), (1, .int (iI c))] [.int (iI ((a 3) (i))), .long (lI (27 * v)), .ref 18] _ _ _ _
            refine pm_e_sim pm_a151_115 rfl ?_
            refine pm_l_top (y := lI ((a 3) (i))) (iI_l ⟨by omega, by omega⟩) ?_
            show pm_E _ _ _ 116 [(0, .ref 18), (1, .int (iI c))] [.long (lI ((a 3) (i))), .long (lI (27 * v)), .ref 18] _ _ _ _
            refine pm_e_sim pm_a151_116 rfl ?_
            refine pm_l_top (y := lI ((27 * v) + ((a 3) (i)))) (lI_add _ _) ?_
            show pm_E _ _ _ 117 [(0, .ref 18), (1, .int (iI c))] [.long (lI ((27 * v) + ((a 3) (i)))), .ref 18] _ _ _ _
            refine pm_e_rd pm_a151_117 rfl rfl rfl ?_
            refine pm_l_top (y := lI 96) (by decide +kernel) ?_
            show pm_E _ _ _ 120 [(0, .ref 18), (1, .int (iI c))] [.long (lI 96), .long (lI ((27 * v) + ((a 3) (i)))), .ref 18] _ _ _ _
            refine pm_e_sim pm_a151_120 rfl ?_
            refine pm_l_top (y := lI (((27 * v) + ((a 3) (i))) - 96)) (lI_sub _ _) ?_
            show pm_E _ _ _ 121 [(0, .ref 18), (1, .int (iI c))] [.long (lI (((27 * v) + ((a 3) (i))) - 96)), .ref 18] _ _ _ _
            refine pm_e_goto pm_a151_121 rfl ?_
            show pm_E _ _ _ 128 [(0, .ref 18), (1, .int (iI c))] [.long (lI (((27 * v) + ((a 3) (i))) - 96)), .ref 18] _ _ _ _
            refine pm_i_put pm_a151_128 rfl (mh_get (j := 0) hA rfl) rfl (Nat.le_of_ble_eq_true rfl) (Or.inl rfl) (mw_l hA _) ?_
            show pm_E _ _ _ 131 [(0, .ref 18), (1, .int (iI c))] [] _ _ _ _
            refine pm_e_sim pm_a151_131 rfl ?_
            show pm_E _ _ _ 132 [(0, .ref 18), (1, .int (iI c))] [.ref 18] _ _ _ _
            refine pm_e_sim pm_a151_132 rfl ?_
            show pm_E _ _ _ 133 [(0, .ref 18), (1, .int (iI c))] [.ref 18, .ref 18] _ _ _ _
            refine pm_i_get pm_a151_133 rfl (mh_get (j := 0) hA rfl) rfl ?_
            show pm_E _ _ _ 136 [(0, .ref 18), (1, .int (iI c))] [.int (iI i), .ref 18] _ _ _ _
            refine pm_e_sim pm_a151_136 rfl ?_
            refine pm_e_top (y := iI 1) (by decide +kernel) ?_
            show pm_E _ _ _ 137 [(0, .ref 18), (1, .int (iI c))] [.int (iI 1), .int (iI i), .ref 18] _ _ _ _
            refine pm_e_sim pm_a151_137 rfl ?_
            refine pm_e_top (y := iI (i + 1)) (iI_add _ _) ?_
            show pm_E _ _ _ 138 [(0, .ref 18), (1, .int (iI c))] [.int (iI (i + 1)), .ref 18] _ _ _ _
            refine pm_i_put pm_a151_138 rfl (mh_get (j := 0) hA rfl) rfl (Nat.le_of_ble_eq_true rfl) (Or.inl rfl) ((mw_9 hA _).trans (congrArg (fun z => mh A z _ _ _ B) (updS_s))) ?_
            show pm_E _ _ _ 141 [(0, .ref 18), (1, .int (iI c))] [] _ _ _ _
            refine pm_e_goto pm_a151_141 rfl ?_
            show pm_E _ _ _ 71 [(0, .ref 18), (1, .int (iI c))] [] _ _ _ _
            rw [rdl_y (by omega) (by omega) (by omega) (by omega)] at k
            exact ih (i + 1) _ (by omega) (by omega) (by omega) (by omega) k
          · skip
            replace h_4 : s 4 ≤ i := h_4
            show pm_E _ _ _ 115 [(0, .ref 18), (1, .int (iI c))] [.int (iI (-1)), .long (lI (27 * v)), .ref 18] _ _ _ _
            refine pm_e_sim pm_a151_115 rfl ?_
            refine pm_l_top (y := lI ((-1))) (iI_l ⟨by omega, by omega⟩) ?_
            show pm_E _ _ _ 116 [(0, .ref 18), (1, .int (iI c))] [.long (lI (-1)), .long (lI (27 * v)), .ref 18] _ _ _ _
            refine pm_e_sim pm_a151_116 rfl ?_
            refine pm_l_top (y := lI ((27 * v) + (-1))) (lI_add _ _) ?_
            show pm_E _ _ _ 117 [(0, .ref 18), (1, .int (iI c))] [.long (lI ((27 * v) + (-1))), .ref 18] _ _ _ _
            refine pm_e_rd pm_a151_117 rfl rfl rfl ?_
            refine pm_l_top (y := lI 96) (by decide +kernel) ?_
            show pm_E _ _ _ 120 [(0, .ref 18), (1, .int (iI c))] [.long (lI 96), .long (lI ((27 * v) + (-1))), .ref 18] _ _ _ _
            refine pm_e_sim pm_a151_120 rfl ?_
            refine pm_l_top (y := lI (((27 * v) + (-1)) - 96)) (lI_sub _ _) ?_
            show pm_E _ _ _ 121 [(0, .ref 18), (1, .int (iI c))] [.long (lI (((27 * v) + (-1)) - 96)), .ref 18] _ _ _ _
            refine pm_e_goto pm_a151_121 rfl ?_
            show pm_E _ _ _ 128 [(0, .ref 18), (1, .int (iI c))] [.long (lI (((27 * v) + (-1)) - 96)), .ref 18] _ _ _ _
            refine pm_i_put pm_a151_128 rfl (mh_get (j := 0) hA rfl) rfl (Nat.le_of_ble_eq_true rfl) (Or.inl rfl) (mw_l hA _) ?_
            show pm_E _ _ _ 131 [(0, .ref 18), (1, .int (iI c))] [] _ _ _ _
            refine pm_e_sim pm_a151_131 rfl ?_
            show pm_E _ _ _ 132 [(0, .ref 18), (1, .int (iI c))] [.ref 18] _ _ _ _
            refine pm_e_sim pm_a151_132 rfl ?_
            show pm_E _ _ _ 133 [(0, .ref 18), (1, .int (iI c))] [.ref 18, .ref 18] _ _ _ _
            refine pm_i_get pm_a151_133 rfl (mh_get (j := 0) hA rfl) rfl ?_
            show pm_E _ _ _ 136 [(0, .ref 18), (1, .int (iI c))] [.int (iI i), .ref 18] _ _ _ _
            refine pm_e_sim pm_a151_136 rfl ?_
            refine pm_e_top (y := iI 1) (by decide +kernel) ?_
            show pm_E _ _ _ 137 [(0, .ref 18), (1, .int (iI c))] [.int (iI 1), .int (iI i), .ref 18] _ _ _ _
            refine pm_e_sim pm_a151_137 rfl ?_
            refine pm_e_top (y := iI (i + 1)) (iI_add _ _) ?_
            show pm_E _ _ _ 138 [(0, .ref 18), (1, .int (iI c))] [.int (iI (i + 1)), .ref 18] _ _ _ _
            refine pm_i_put pm_a151_138 rfl (mh_get (j := 0) hA rfl) rfl (Nat.le_of_ble_eq_true rfl) (Or.inl rfl) ((mw_9 hA _).trans (congrArg (fun z => mh A z _ _ _ B) (updS_s))) ?_
            show pm_E _ _ _ 141 [(0, .ref 18), (1, .int (iI c))] [] _ _ _ _
            refine pm_e_goto pm_a151_141 rfl ?_
            show pm_E _ _ _ 71 [(0, .ref 18), (1, .int (iI c))] [] _ _ _ _
            exfalso; omega
      · skip
        show pm_E _ _ _ 85 [(0, .ref 18), (1, .int (iI c))] [.int (iI 0)] _ _ _ _
        refine pm_e_ift pm_a151_85 rfl (by decide +kernel) ?_
        show pm_E _ _ _ 144 [(0, .ref 18), (1, .int (iI c))] [] _ _ _ _
        rw [rdl_n (by omega)] at k
        exact k
    · skip
      replace h_1 : s 4 ≤ i := h_1
      show pm_E _ _ _ 75 [(0, .ref 18), (1, .int (iI c))] [.int (iI (-1))] _ _ _ _
      refine pm_e_sim pm_a151_75 rfl ?_
      refine pm_l_top (y := lI ((-1))) (iI_l ⟨by omega, by omega⟩) ?_
      show pm_E _ _ _ 76 [(0, .ref 18), (1, .int (iI c))] [.long (lI (-1))] _ _ _ _
      refine pm_e_rd pm_a151_76 rfl rfl rfl ?_
      refine pm_l_top (y := lI 97) (by decide +kernel) ?_
      show pm_E _ _ _ 79 [(0, .ref 18), (1, .int (iI c))] [.long (lI 97), .long (lI (-1))] _ _ _ _
      refine pm_e_rd pm_a151_79 rfl rfl rfl ?_
      refine pm_l_top (y := lI 122) (by decide +kernel) ?_
      show pm_E _ _ _ 82 [(0, .ref 18), (1, .int (iI c))] [.long (lI 122), .long (lI 97), .long (lI (-1))] _ _ _ _
      refine pm_e_call (T2 := pm_mm147) pm_a151_82 rfl rfl rfl rfl rfl rfl rfl rfl rfl ?_
      show pm_E none _ _ 0 [(0, .long (lI (-1))), (2, .long (lI 97)), (4, .long (lI 122))] [] _ _ _ _
      refine M_in ⟨by omega, by omega⟩ ⟨by omega, by omega⟩ ⟨by omega, by omega⟩ (fun h_5 => ?_) (fun h_5 => ?_)
      · skip
        show pm_E _ _ _ 85 [(0, .ref 18), (1, .int (iI c))] [.int (iI 1)] _ _ _ _
        refine pm_e_iff pm_a151_85 rfl (by decide +kernel) ?_
        show pm_E _ _ _ 88 [(0, .ref 18), (1, .int (iI c))] [] _ _ _ _
        refine pm_e_sim pm_a151_88 rfl ?_
        show pm_E _ _ _ 89 [(0, .ref 18), (1, .int (iI c))] [.ref 18] _ _ _ _
        refine pm_e_sim pm_a151_89 rfl ?_
        show pm_E _ _ _ 90 [(0, .ref 18), (1, .int (iI c))] [.ref 18, .ref 18] _ _ _ _
        refine pm_i_get pm_a151_90 rfl (mh_get (j := 0) hA rfl) rfl ?_
        show pm_E _ _ _ 93 [(0, .ref 18), (1, .int (iI c))] [.int (iI i), .ref 18] _ _ _ _
        refine pm_e_sim pm_a151_93 rfl ?_
        show pm_E _ _ _ 94 [(0, .ref 18), (1, .int (iI c))] [.ref 18, .int (iI i), .ref 18] _ _ _ _
        refine pm_i_get pm_a151_94 rfl (mh_get (j := 0) hA rfl) rfl ?_
        show pm_E _ _ _ 97 [(0, .ref 18), (1, .int (iI c))] [.int (iI (s 10)), .int (iI i), .ref 18] _ _ _ _
        refine pm_e_sim pm_a151_97 rfl ?_
        refine pm_e_top (y := iI (i - (s 10))) (iI_sub _ _) ?_
        show pm_E _ _ _ 98 [(0, .ref 18), (1, .int (iI c))] [.int (iI (i - (s 10))), .ref 18] _ _ _ _
        refine pm_e_sim pm_a151_98 rfl ?_
        refine pm_e_top (y := iI 8) (by decide +kernel) ?_
        show pm_E _ _ _ 100 [(0, .ref 18), (1, .int (iI c))] [.int (iI 8), .int (iI (i - (s 10))), .ref 18] _ _ _ _
        refine pm_c_ge (t := 124) pm_a151_100 rfl ⟨by omega, by omega⟩ ⟨by omega, by omega⟩ (fun h_6 => ?_) (fun h_6 => ?_)
        · skip
          show pm_E _ _ _ 124 [(0, .ref 18), (1, .int (iI c))] [.ref 18] _ _ _ _
          refine pm_e_sim pm_a151_124 rfl ?_
          show pm_E _ _ _ 125 [(0, .ref 18), (1, .int (iI c))] [.ref 18, .ref 18] _ _ _ _
          refine pm_i_get pm_a151_125 rfl (mh_get (j := 0) hA rfl) rfl ?_
          show pm_E _ _ _ 128 [(0, .ref 18), (1, .int (iI c))] [.long (lI v), .ref 18] _ _ _ _
          refine pm_i_put pm_a151_128 rfl (mh_get (j := 0) hA rfl) rfl (Nat.le_of_ble_eq_true rfl) (Or.inl rfl) (mw_l hA _) ?_
          show pm_E _ _ _ 131 [(0, .ref 18), (1, .int (iI c))] [] _ _ _ _
          refine pm_e_sim pm_a151_131 rfl ?_
          show pm_E _ _ _ 132 [(0, .ref 18), (1, .int (iI c))] [.ref 18] _ _ _ _
          refine pm_e_sim pm_a151_132 rfl ?_
          show pm_E _ _ _ 133 [(0, .ref 18), (1, .int (iI c))] [.ref 18, .ref 18] _ _ _ _
          refine pm_i_get pm_a151_133 rfl (mh_get (j := 0) hA rfl) rfl ?_
          show pm_E _ _ _ 136 [(0, .ref 18), (1, .int (iI c))] [.int (iI i), .ref 18] _ _ _ _
          refine pm_e_sim pm_a151_136 rfl ?_
          refine pm_e_top (y := iI 1) (by decide +kernel) ?_
          show pm_E _ _ _ 137 [(0, .ref 18), (1, .int (iI c))] [.int (iI 1), .int (iI i), .ref 18] _ _ _ _
          refine pm_e_sim pm_a151_137 rfl ?_
          refine pm_e_top (y := iI (i + 1)) (iI_add _ _) ?_
          show pm_E _ _ _ 138 [(0, .ref 18), (1, .int (iI c))] [.int (iI (i + 1)), .ref 18] _ _ _ _
          refine pm_i_put pm_a151_138 rfl (mh_get (j := 0) hA rfl) rfl (Nat.le_of_ble_eq_true rfl) (Or.inl rfl) ((mw_9 hA _).trans (congrArg (fun z => mh A z _ _ _ B) (updS_s))) ?_
          show pm_E _ _ _ 141 [(0, .ref 18), (1, .int (iI c))] [] _ _ _ _
          refine pm_e_goto pm_a151_141 rfl ?_
          show pm_E _ _ _ 71 [(0, .ref 18), (1, .int (iI c))] [] _ _ _ _
          rw [rdl_z (by omega) (by omega) (by omega) (by omega)] at k
          exact ih (i + 1) _ (by omega) (by omega) (by omega) (by omega) k
        · skip
          show pm_E _ _ _ 103 [(0, .ref 18), (1, .int (iI c))] [.ref 18] _ _ _ _
          refine pm_e_rd pm_a151_103 rfl rfl rfl ?_
          refine pm_l_top (y := lI 27) (by decide +kernel) ?_
          show pm_E _ _ _ 106 [(0, .ref 18), (1, .int (iI c))] [.long (lI 27), .ref 18] _ _ _ _
          refine pm_e_sim pm_a151_106 rfl ?_
          show pm_E _ _ _ 107 [(0, .ref 18), (1, .int (iI c))] [.ref 18, .long (lI 27), .ref 18] _ _ _ _
          refine pm_i_get pm_a151_107 rfl (mh_get (j := 0) hA rfl) rfl ?_
          show pm_E _ _ _ 110 [(0, .ref 18), (1, .int (iI c))] [.long (lI v), .long (lI 27), .ref 18] _ _ _ _
          refine pm_e_sim pm_a151_110 rfl ?_
          refine pm_l_top (y := lI (27 * v)) (lI_mul _ _) ?_
          show pm_E _ _ _ 111 [(0, .ref 18), (1, .int (iI c))] [.long (lI (27 * v)), .ref 18] _ _ _ _
          refine pm_e_sim pm_a151_111 rfl ?_
          show pm_E _ _ _ 112 [(0, .ref 18), (1, .int (iI c))] [.ref 18, .long (lI (27 * v)), .ref 18] _ _ _ _
          refine pm_i_callv (k := 18) (T2 := pm_mm152) pm_a151_112 rfl rfl rfl (mh_get (j := 0) hA rfl) ⟨Nat.le_of_ble_eq_true rfl, Nat.le_of_ble_eq_true rfl, rfl, by decide +kernel⟩ ?_
          show pm_E none _ _ 0 [(0, .ref 18)] [] _ _ _ _
          refine M_look hA (show 0 ≤ i by omega) (show i ≤ 100000 by omega) (show 0 ≤ s 4 by omega) (show s 4 ≤ 600 by omega) (fun h_7 => ?_) (fun h_7 => ?_)
          · skip
            replace h_7 : i < s 4 := h_7
            show pm_E _ _ _ 115 [(0, .ref 18), (1, .int (iI c))] [.int (iI ((a 3) (i))), .long (lI (27 * v)), .ref 18] _ _ _ _
            refine pm_e_sim pm_a151_115 rfl ?_
            refine pm_l_top (y := lI ((a 3) (i))) (iI_l ⟨by omega, by omega⟩) ?_
            show pm_E _ _ _ 116 [(0, .ref 18), (1, .int (iI c))] [.long (lI ((a 3) (i))), .long (lI (27 * v)), .ref 18] _ _ _ _
            refine pm_e_sim pm_a151_116 rfl ?_
            refine pm_l_top (y := lI ((27 * v) + ((a 3) (i)))) (lI_add _ _) ?_
            show pm_E _ _ _ 117 [(0, .ref 18), (1, .int (iI c))] [.long (lI ((27 * v) + ((a 3) (i)))), .ref 18] _ _ _ _
            refine pm_e_rd pm_a151_117 rfl rfl rfl ?_
            refine pm_l_top (y := lI 96) (by decide +kernel) ?_
            show pm_E _ _ _ 120 [(0, .ref 18), (1, .int (iI c))] [.long (lI 96), .long (lI ((27 * v) + ((a 3) (i)))), .ref 18] _ _ _ _
            refine pm_e_sim pm_a151_120 rfl ?_
            refine pm_l_top (y := lI (((27 * v) + ((a 3) (i))) - 96)) (lI_sub _ _) ?_
            show pm_E _ _ _ 121 [(0, .ref 18), (1, .int (iI c))] [.long (lI (((27 * v) + ((a 3) (i))) - 96)), .ref 18] _ _ _ _
            refine pm_e_goto pm_a151_121 rfl ?_
            show pm_E _ _ _ 128 [(0, .ref 18), (1, .int (iI c))] [.long (lI (((27 * v) + ((a 3) (i))) - 96)), .ref 18] _ _ _ _
            refine pm_i_put pm_a151_128 rfl (mh_get (j := 0) hA rfl) rfl (Nat.le_of_ble_eq_true rfl) (Or.inl rfl) (mw_l hA _) ?_
            show pm_E _ _ _ 131 [(0, .ref 18), (1, .int (iI c))] [] _ _ _ _
            refine pm_e_sim pm_a151_131 rfl ?_
            show pm_E _ _ _ 132 [(0, .ref 18), (1, .int (iI c))] [.ref 18] _ _ _ _
            refine pm_e_sim pm_a151_132 rfl ?_
            show pm_E _ _ _ 133 [(0, .ref 18), (1, .int (iI c))] [.ref 18, .ref 18] _ _ _ _
            refine pm_i_get pm_a151_133 rfl (mh_get (j := 0) hA rfl) rfl ?_
            show pm_E _ _ _ 136 [(0, .ref 18), (1, .int (iI c))] [.int (iI i), .ref 18] _ _ _ _
            refine pm_e_sim pm_a151_136 rfl ?_
            refine pm_e_top (y := iI 1) (by decide +kernel) ?_
            show pm_E _ _ _ 137 [(0, .ref 18), (1, .int (iI c))] [.int (iI 1), .int (iI i), .ref 18] _ _ _ _
            refine pm_e_sim pm_a151_137 rfl ?_
            refine pm_e_top (y := iI (i + 1)) (iI_add _ _) ?_
            show pm_E _ _ _ 138 [(0, .ref 18), (1, .int (iI c))] [.int (iI (i + 1)), .ref 18] _ _ _ _
            refine pm_i_put pm_a151_138 rfl (mh_get (j := 0) hA rfl) rfl (Nat.le_of_ble_eq_true rfl) (Or.inl rfl) ((mw_9 hA _).trans (congrArg (fun z => mh A z _ _ _ B) (updS_s))) ?_
            show pm_E _ _ _ 141 [(0, .ref 18), (1, .int (iI c))] [] _ _ _ _
            refine pm_e_goto pm_a151_141 rfl ?_
            show pm_E _ _ _ 71 [(0, .ref 18), (1, .int (iI c))] [] _ _ _ _
            rw [rdl_y (by omega) (by omega) (by omega) (by omega)] at k
            exact ih (i + 1) _ (by omega) (by omega) (by omega) (by omega) k
          · skip
            replace h_7 : s 4 ≤ i := h_7
            show pm_E _ _ _ 115 [(0, .ref 18), (1, .int (iI c))] [.int (iI (-1)), .long (lI (27 * v)), .ref 18] _ _ _ _
            refine pm_e_sim pm_a151_115 rfl ?_
            refine pm_l_top (y := lI ((-1))) (iI_l ⟨by omega, by omega⟩) ?_
            show pm_E _ _ _ 116 [(0, .ref 18), (1, .int (iI c))] [.long (lI (-1)), .long (lI (27 * v)), .ref 18] _ _ _ _
            refine pm_e_sim pm_a151_116 rfl ?_
            refine pm_l_top (y := lI ((27 * v) + (-1))) (lI_add _ _) ?_
            show pm_E _ _ _ 117 [(0, .ref 18), (1, .int (iI c))] [.long (lI ((27 * v) + (-1))), .ref 18] _ _ _ _
            refine pm_e_rd pm_a151_117 rfl rfl rfl ?_
            refine pm_l_top (y := lI 96) (by decide +kernel) ?_
            show pm_E _ _ _ 120 [(0, .ref 18), (1, .int (iI c))] [.long (lI 96), .long (lI ((27 * v) + (-1))), .ref 18] _ _ _ _
            refine pm_e_sim pm_a151_120 rfl ?_
            refine pm_l_top (y := lI (((27 * v) + (-1)) - 96)) (lI_sub _ _) ?_
            show pm_E _ _ _ 121 [(0, .ref 18), (1, .int (iI c))] [.long (lI (((27 * v) + (-1)) - 96)), .ref 18] _ _ _ _
            refine pm_e_goto pm_a151_121 rfl ?_
            show pm_E _ _ _ 128 [(0, .ref 18), (1, .int (iI c))] [.long (lI (((27 * v) + (-1)) - 96)), .ref 18] _ _ _ _
            refine pm_i_put pm_a151_128 rfl (mh_get (j := 0) hA rfl) rfl (Nat.le_of_ble_eq_true rfl) (Or.inl rfl) (mw_l hA _) ?_
            show pm_E _ _ _ 131 [(0, .ref 18), (1, .int (iI c))] [] _ _ _ _
            refine pm_e_sim pm_a151_131 rfl ?_
            show pm_E _ _ _ 132 [(0, .ref 18), (1, .int (iI c))] [.ref 18] _ _ _ _
            refine pm_e_sim pm_a151_132 rfl ?_
            show pm_E _ _ _ 133 [(0, .ref 18), (1, .int (iI c))] [.ref 18, .ref 18] _ _ _ _
            refine pm_i_get pm_a151_133 rfl (mh_get (j := 0) hA rfl) rfl ?_
            show pm_E _ _ _ 136 [(0, .ref 18), (1, .int (iI c))] [.int (iI i), .ref 18] _ _ _ _
            refine pm_e_sim pm_a151_136 rfl ?_
            refine pm_e_top (y := iI 1) (by decide +kernel) ?_
            show pm_E _ _ _ 137 [(0, .ref 18), (1, .int (iI c))] [.int (iI 1), .int (iI i), .ref 18] _ _ _ _
            refine pm_e_sim pm_a151_137 rfl ?_
            refine pm_e_top (y := iI (i + 1)) (iI_add _ _) ?_
            show pm_E _ _ _ 138 [(0, .ref 18), (1, .int (iI c))] [.int (iI (i + 1)), .ref 18] _ _ _ _
            refine pm_i_put pm_a151_138 rfl (mh_get (j := 0) hA rfl) rfl (Nat.le_of_ble_eq_true rfl) (Or.inl rfl) ((mw_9 hA _).trans (congrArg (fun z => mh A z _ _ _ B) (updS_s))) ?_
            show pm_E _ _ _ 141 [(0, .ref 18), (1, .int (iI c))] [] _ _ _ _
            refine pm_e_goto pm_a151_141 rfl ?_
            show pm_E _ _ _ 71 [(0, .ref 18), (1, .int (iI c))] [] _ _ _ _
            exfalso; omega
      · skip
        show pm_E _ _ _ 85 [(0, .ref 18), (1, .int (iI c))] [.int (iI 0)] _ _ _ _
        refine pm_e_ift pm_a151_85 rfl (by decide +kernel) ?_
        show pm_E _ _ _ 144 [(0, .ref 18), (1, .int (iI c))] [] _ _ _ _
        rw [rdl_n (by omega)] at k
        exact k
set_option maxHeartbeats 4000000 in
set_option maxRecDepth 100000 in
theorem M_next_3 {d : Nat} {A B : List va_E} {s : Nat → Int} {a : Nat → Int → Int} {nm : Nat → Int64} {Q : Option Value → List va_E → Nat → Nat → Prop} {c : Int} (hA : A.length = 18) (hr : ∀ j, in32 (a 3 j)) (h4 : 0 ≤ s 4) (h5 : s 4 ≤ 600) (hb : 0 ≤ s 10) : ∀ (f : Nat) (i v : Int), s 10 ≤ i → 0 ≤ i → i ≤ s 4 → s 4 ≤ i + f → pm_E none (d + 1) pm_mm151 261 [(0, .ref 18), (1, .int (iI c))] [] (mh A (updS s 9 (rdl (a 3) 48 57 10 48 2 (s 4) (s 10) f i v).1) (lI (rdl (a 3) 48 57 10 48 2 (s 4) (s 10) f i v).2) a nm B) 0 0 Q → pm_E none (d + 1) pm_mm151 189 [(0, .ref 18), (1, .int (iI c))] [] (mh A (updS s 9 i) (lI v) a nm B) 0 0 Q := by
  intro f
  induction f with
  | zero =>
    intro i v hb1 hi0 hi1 hi2 k
    have hr1 := hr i
    refine pm_e_sim pm_a151_189 rfl ?_
    show pm_E _ _ _ 190 [(0, .ref 18), (1, .int (iI c))] [.ref 18] _ _ _ _
    refine pm_i_callv (k := 18) (T2 := pm_mm152) pm_a151_190 rfl rfl rfl (mh_get (j := 0) hA rfl) ⟨Nat.le_of_ble_eq_true rfl, Nat.le_of_ble_eq_true rfl, rfl, by decide +kernel⟩ ?_
    show pm_E none _ _ 0 [(0, .ref 18)] [] _ _ _ _
    refine M_look hA (show 0 ≤ i by omega) (show i ≤ 100000 by omega) (show 0 ≤ s 4 by omega) (show s 4 ≤ 600 by omega) (fun h_1 => ?_) (fun h_1 => ?_)
    · skip
      replace h_1 : i < s 4 := h_1
      show pm_E _ _ _ 193 [(0, .ref 18), (1, .int (iI c))] [.int (iI ((a 3) (i)))] _ _ _ _
      refine pm_e_sim pm_a151_193 rfl ?_
      refine pm_l_top (y := lI ((a 3) (i))) (iI_l ⟨by omega, by omega⟩) ?_
      show pm_E _ _ _ 194 [(0, .ref 18), (1, .int (iI c))] [.long (lI ((a 3) (i)))] _ _ _ _
      refine pm_e_rd pm_a151_194 rfl rfl rfl ?_
      refine pm_l_top (y := lI 48) (by decide +kernel) ?_
      show pm_E _ _ _ 197 [(0, .ref 18), (1, .int (iI c))] [.long (lI 48), .long (lI ((a 3) (i)))] _ _ _ _
      refine pm_e_rd pm_a151_197 rfl rfl rfl ?_
      refine pm_l_top (y := lI 57) (by decide +kernel) ?_
      show pm_E _ _ _ 200 [(0, .ref 18), (1, .int (iI c))] [.long (lI 57), .long (lI 48), .long (lI ((a 3) (i)))] _ _ _ _
      refine pm_e_call (T2 := pm_mm147) pm_a151_200 rfl rfl rfl rfl rfl rfl rfl rfl rfl ?_
      show pm_E none _ _ 0 [(0, .long (lI ((a 3) (i)))), (2, .long (lI 48)), (4, .long (lI 57))] [] _ _ _ _
      refine M_in ⟨by omega, by omega⟩ ⟨by omega, by omega⟩ ⟨by omega, by omega⟩ (fun h_2 => ?_) (fun h_2 => ?_)
      · skip
        show pm_E _ _ _ 203 [(0, .ref 18), (1, .int (iI c))] [.int (iI 1)] _ _ _ _
        refine pm_e_iff pm_a151_203 rfl (by decide +kernel) ?_
        show pm_E _ _ _ 206 [(0, .ref 18), (1, .int (iI c))] [] _ _ _ _
        refine pm_e_sim pm_a151_206 rfl ?_
        show pm_E _ _ _ 207 [(0, .ref 18), (1, .int (iI c))] [.ref 18] _ _ _ _
        refine pm_e_sim pm_a151_207 rfl ?_
        show pm_E _ _ _ 208 [(0, .ref 18), (1, .int (iI c))] [.ref 18, .ref 18] _ _ _ _
        refine pm_i_get pm_a151_208 rfl (mh_get (j := 0) hA rfl) rfl ?_
        show pm_E _ _ _ 211 [(0, .ref 18), (1, .int (iI c))] [.int (iI i), .ref 18] _ _ _ _
        refine pm_e_sim pm_a151_211 rfl ?_
        show pm_E _ _ _ 212 [(0, .ref 18), (1, .int (iI c))] [.ref 18, .int (iI i), .ref 18] _ _ _ _
        refine pm_i_get pm_a151_212 rfl (mh_get (j := 0) hA rfl) rfl ?_
        show pm_E _ _ _ 215 [(0, .ref 18), (1, .int (iI c))] [.int (iI (s 10)), .int (iI i), .ref 18] _ _ _ _
        refine pm_e_sim pm_a151_215 rfl ?_
        refine pm_e_top (y := iI (i - (s 10))) (iI_sub _ _) ?_
        show pm_E _ _ _ 216 [(0, .ref 18), (1, .int (iI c))] [.int (iI (i - (s 10))), .ref 18] _ _ _ _
        refine pm_e_sim pm_a151_216 rfl ?_
        refine pm_e_top (y := iI 2) (by decide +kernel) ?_
        show pm_E _ _ _ 217 [(0, .ref 18), (1, .int (iI c))] [.int (iI 2), .int (iI (i - (s 10))), .ref 18] _ _ _ _
        refine pm_c_ge (t := 241) pm_a151_217 rfl ⟨by omega, by omega⟩ ⟨by omega, by omega⟩ (fun h_3 => ?_) (fun h_3 => ?_)
        · skip
          show pm_E _ _ _ 241 [(0, .ref 18), (1, .int (iI c))] [.ref 18] _ _ _ _
          refine pm_e_sim pm_a151_241 rfl ?_
          show pm_E _ _ _ 242 [(0, .ref 18), (1, .int (iI c))] [.ref 18, .ref 18] _ _ _ _
          refine pm_i_get pm_a151_242 rfl (mh_get (j := 0) hA rfl) rfl ?_
          show pm_E _ _ _ 245 [(0, .ref 18), (1, .int (iI c))] [.long (lI v), .ref 18] _ _ _ _
          refine pm_i_put pm_a151_245 rfl (mh_get (j := 0) hA rfl) rfl (Nat.le_of_ble_eq_true rfl) (Or.inl rfl) (mw_l hA _) ?_
          show pm_E _ _ _ 248 [(0, .ref 18), (1, .int (iI c))] [] _ _ _ _
          refine pm_e_sim pm_a151_248 rfl ?_
          show pm_E _ _ _ 249 [(0, .ref 18), (1, .int (iI c))] [.ref 18] _ _ _ _
          refine pm_e_sim pm_a151_249 rfl ?_
          show pm_E _ _ _ 250 [(0, .ref 18), (1, .int (iI c))] [.ref 18, .ref 18] _ _ _ _
          refine pm_i_get pm_a151_250 rfl (mh_get (j := 0) hA rfl) rfl ?_
          show pm_E _ _ _ 253 [(0, .ref 18), (1, .int (iI c))] [.int (iI i), .ref 18] _ _ _ _
          refine pm_e_sim pm_a151_253 rfl ?_
          refine pm_e_top (y := iI 1) (by decide +kernel) ?_
          show pm_E _ _ _ 254 [(0, .ref 18), (1, .int (iI c))] [.int (iI 1), .int (iI i), .ref 18] _ _ _ _
          refine pm_e_sim pm_a151_254 rfl ?_
          refine pm_e_top (y := iI (i + 1)) (iI_add _ _) ?_
          show pm_E _ _ _ 255 [(0, .ref 18), (1, .int (iI c))] [.int (iI (i + 1)), .ref 18] _ _ _ _
          refine pm_i_put pm_a151_255 rfl (mh_get (j := 0) hA rfl) rfl (Nat.le_of_ble_eq_true rfl) (Or.inl rfl) ((mw_9 hA _).trans (congrArg (fun z => mh A z _ _ _ B) (updS_s))) ?_
          show pm_E _ _ _ 258 [(0, .ref 18), (1, .int (iI c))] [] _ _ _ _
          refine pm_e_goto pm_a151_258 rfl ?_
          show pm_E _ _ _ 189 [(0, .ref 18), (1, .int (iI c))] [] _ _ _ _
          exfalso; omega
        · skip
          show pm_E _ _ _ 220 [(0, .ref 18), (1, .int (iI c))] [.ref 18] _ _ _ _
          refine pm_e_rd pm_a151_220 rfl rfl rfl ?_
          refine pm_l_top (y := lI 10) (by decide +kernel) ?_
          show pm_E _ _ _ 223 [(0, .ref 18), (1, .int (iI c))] [.long (lI 10), .ref 18] _ _ _ _
          refine pm_e_sim pm_a151_223 rfl ?_
          show pm_E _ _ _ 224 [(0, .ref 18), (1, .int (iI c))] [.ref 18, .long (lI 10), .ref 18] _ _ _ _
          refine pm_i_get pm_a151_224 rfl (mh_get (j := 0) hA rfl) rfl ?_
          show pm_E _ _ _ 227 [(0, .ref 18), (1, .int (iI c))] [.long (lI v), .long (lI 10), .ref 18] _ _ _ _
          refine pm_e_sim pm_a151_227 rfl ?_
          refine pm_l_top (y := lI (10 * v)) (lI_mul _ _) ?_
          show pm_E _ _ _ 228 [(0, .ref 18), (1, .int (iI c))] [.long (lI (10 * v)), .ref 18] _ _ _ _
          refine pm_e_sim pm_a151_228 rfl ?_
          show pm_E _ _ _ 229 [(0, .ref 18), (1, .int (iI c))] [.ref 18, .long (lI (10 * v)), .ref 18] _ _ _ _
          refine pm_i_callv (k := 18) (T2 := pm_mm152) pm_a151_229 rfl rfl rfl (mh_get (j := 0) hA rfl) ⟨Nat.le_of_ble_eq_true rfl, Nat.le_of_ble_eq_true rfl, rfl, by decide +kernel⟩ ?_
          show pm_E none _ _ 0 [(0, .ref 18)] [] _ _ _ _
          refine M_look hA (show 0 ≤ i by omega) (show i ≤ 100000 by omega) (show 0 ≤ s 4 by omega) (show s 4 ≤ 600 by omega) (fun h_4 => ?_) (fun h_4 => ?_)
          · skip
            replace h_4 : i < s 4 := h_4
            show pm_E _ _ _ 232 [(0, .ref 18), (1, .int (iI c))] [.int (iI ((a 3) (i))), .long (lI (10 * v)), .ref 18] _ _ _ _
            refine pm_e_sim pm_a151_232 rfl ?_
            refine pm_l_top (y := lI ((a 3) (i))) (iI_l ⟨by omega, by omega⟩) ?_
            show pm_E _ _ _ 233 [(0, .ref 18), (1, .int (iI c))] [.long (lI ((a 3) (i))), .long (lI (10 * v)), .ref 18] _ _ _ _
            refine pm_e_sim pm_a151_233 rfl ?_
            refine pm_l_top (y := lI ((10 * v) + ((a 3) (i)))) (lI_add _ _) ?_
            show pm_E _ _ _ 234 [(0, .ref 18), (1, .int (iI c))] [.long (lI ((10 * v) + ((a 3) (i)))), .ref 18] _ _ _ _
            refine pm_e_rd pm_a151_234 rfl rfl rfl ?_
            refine pm_l_top (y := lI 48) (by decide +kernel) ?_
            show pm_E _ _ _ 237 [(0, .ref 18), (1, .int (iI c))] [.long (lI 48), .long (lI ((10 * v) + ((a 3) (i)))), .ref 18] _ _ _ _
            refine pm_e_sim pm_a151_237 rfl ?_
            refine pm_l_top (y := lI (((10 * v) + ((a 3) (i))) - 48)) (lI_sub _ _) ?_
            show pm_E _ _ _ 238 [(0, .ref 18), (1, .int (iI c))] [.long (lI (((10 * v) + ((a 3) (i))) - 48)), .ref 18] _ _ _ _
            refine pm_e_goto pm_a151_238 rfl ?_
            show pm_E _ _ _ 245 [(0, .ref 18), (1, .int (iI c))] [.long (lI (((10 * v) + ((a 3) (i))) - 48)), .ref 18] _ _ _ _
            refine pm_i_put pm_a151_245 rfl (mh_get (j := 0) hA rfl) rfl (Nat.le_of_ble_eq_true rfl) (Or.inl rfl) (mw_l hA _) ?_
            show pm_E _ _ _ 248 [(0, .ref 18), (1, .int (iI c))] [] _ _ _ _
            refine pm_e_sim pm_a151_248 rfl ?_
            show pm_E _ _ _ 249 [(0, .ref 18), (1, .int (iI c))] [.ref 18] _ _ _ _
            refine pm_e_sim pm_a151_249 rfl ?_
            show pm_E _ _ _ 250 [(0, .ref 18), (1, .int (iI c))] [.ref 18, .ref 18] _ _ _ _
            refine pm_i_get pm_a151_250 rfl (mh_get (j := 0) hA rfl) rfl ?_
            show pm_E _ _ _ 253 [(0, .ref 18), (1, .int (iI c))] [.int (iI i), .ref 18] _ _ _ _
            refine pm_e_sim pm_a151_253 rfl ?_
            refine pm_e_top (y := iI 1) (by decide +kernel) ?_
            show pm_E _ _ _ 254 [(0, .ref 18), (1, .int (iI c))] [.int (iI 1), .int (iI i), .ref 18] _ _ _ _
            refine pm_e_sim pm_a151_254 rfl ?_
            refine pm_e_top (y := iI (i + 1)) (iI_add _ _) ?_
            show pm_E _ _ _ 255 [(0, .ref 18), (1, .int (iI c))] [.int (iI (i + 1)), .ref 18] _ _ _ _
            refine pm_i_put pm_a151_255 rfl (mh_get (j := 0) hA rfl) rfl (Nat.le_of_ble_eq_true rfl) (Or.inl rfl) ((mw_9 hA _).trans (congrArg (fun z => mh A z _ _ _ B) (updS_s))) ?_
            show pm_E _ _ _ 258 [(0, .ref 18), (1, .int (iI c))] [] _ _ _ _
            refine pm_e_goto pm_a151_258 rfl ?_
            show pm_E _ _ _ 189 [(0, .ref 18), (1, .int (iI c))] [] _ _ _ _
            exfalso; omega
          · skip
            replace h_4 : s 4 ≤ i := h_4
            show pm_E _ _ _ 232 [(0, .ref 18), (1, .int (iI c))] [.int (iI (-1)), .long (lI (10 * v)), .ref 18] _ _ _ _
            refine pm_e_sim pm_a151_232 rfl ?_
            refine pm_l_top (y := lI ((-1))) (iI_l ⟨by omega, by omega⟩) ?_
            show pm_E _ _ _ 233 [(0, .ref 18), (1, .int (iI c))] [.long (lI (-1)), .long (lI (10 * v)), .ref 18] _ _ _ _
            refine pm_e_sim pm_a151_233 rfl ?_
            refine pm_l_top (y := lI ((10 * v) + (-1))) (lI_add _ _) ?_
            show pm_E _ _ _ 234 [(0, .ref 18), (1, .int (iI c))] [.long (lI ((10 * v) + (-1))), .ref 18] _ _ _ _
            refine pm_e_rd pm_a151_234 rfl rfl rfl ?_
            refine pm_l_top (y := lI 48) (by decide +kernel) ?_
            show pm_E _ _ _ 237 [(0, .ref 18), (1, .int (iI c))] [.long (lI 48), .long (lI ((10 * v) + (-1))), .ref 18] _ _ _ _
            refine pm_e_sim pm_a151_237 rfl ?_
            refine pm_l_top (y := lI (((10 * v) + (-1)) - 48)) (lI_sub _ _) ?_
            show pm_E _ _ _ 238 [(0, .ref 18), (1, .int (iI c))] [.long (lI (((10 * v) + (-1)) - 48)), .ref 18] _ _ _ _
            refine pm_e_goto pm_a151_238 rfl ?_
            show pm_E _ _ _ 245 [(0, .ref 18), (1, .int (iI c))] [.long (lI (((10 * v) + (-1)) - 48)), .ref 18] _ _ _ _
            refine pm_i_put pm_a151_245 rfl (mh_get (j := 0) hA rfl) rfl (Nat.le_of_ble_eq_true rfl) (Or.inl rfl) (mw_l hA _) ?_
            show pm_E _ _ _ 248 [(0, .ref 18), (1, .int (iI c))] [] _ _ _ _
            refine pm_e_sim pm_a151_248 rfl ?_
            show pm_E _ _ _ 249 [(0, .ref 18), (1, .int (iI c))] [.ref 18] _ _ _ _
            refine pm_e_sim pm_a151_249 rfl ?_
            show pm_E _ _ _ 250 [(0, .ref 18), (1, .int (iI c))] [.ref 18, .ref 18] _ _ _ _
            refine pm_i_get pm_a151_250 rfl (mh_get (j := 0) hA rfl) rfl ?_
            show pm_E _ _ _ 253 [(0, .ref 18), (1, .int (iI c))] [.int (iI i), .ref 18] _ _ _ _
            refine pm_e_sim pm_a151_253 rfl ?_
            refine pm_e_top (y := iI 1) (by decide +kernel) ?_
            show pm_E _ _ _ 254 [(0, .ref 18), (1, .int (iI c))] [.int (iI 1), .int (iI i), .ref 18] _ _ _ _
            refine pm_e_sim pm_a151_254 rfl ?_
            refine pm_e_top (y := iI (i + 1)) (iI_add _ _) ?_
            show pm_E _ _ _ 255 [(0, .ref 18), (1, .int (iI c))] [.int (iI (i + 1)), .ref 18] _ _ _ _
            refine pm_i_put pm_a151_255 rfl (mh_get (j := 0) hA rfl) rfl (Nat.le_of_ble_eq_true rfl) (Or.inl rfl) ((mw_9 hA _).trans (congrArg (fun z => mh A z _ _ _ B) (updS_s))) ?_
            show pm_E _ _ _ 258 [(0, .ref 18), (1, .int (iI c))] [] _ _ _ _
            refine pm_e_goto pm_a151_258 rfl ?_
            show pm_E _ _ _ 189 [(0, .ref 18), (1, .int (iI c))] [] _ _ _ _
            exfalso; omega
      · skip
        show pm_E _ _ _ 203 [(0, .ref 18), (1, .int (iI c))] [.int (iI 0)] _ _ _ _
        refine pm_e_ift pm_a151_203 rfl (by decide +kernel) ?_
        show pm_E _ _ _ 261 [(0, .ref 18), (1, .int (iI c))] [] _ _ _ _
        rw [rdl_n (by omega)] at k
        exact k
    · skip
      replace h_1 : s 4 ≤ i := h_1
      show pm_E _ _ _ 193 [(0, .ref 18), (1, .int (iI c))] [.int (iI (-1))] _ _ _ _
      refine pm_e_sim pm_a151_193 rfl ?_
      refine pm_l_top (y := lI ((-1))) (iI_l ⟨by omega, by omega⟩) ?_
      show pm_E _ _ _ 194 [(0, .ref 18), (1, .int (iI c))] [.long (lI (-1))] _ _ _ _
      refine pm_e_rd pm_a151_194 rfl rfl rfl ?_
      refine pm_l_top (y := lI 48) (by decide +kernel) ?_
      show pm_E _ _ _ 197 [(0, .ref 18), (1, .int (iI c))] [.long (lI 48), .long (lI (-1))] _ _ _ _
      refine pm_e_rd pm_a151_197 rfl rfl rfl ?_
      refine pm_l_top (y := lI 57) (by decide +kernel) ?_
      show pm_E _ _ _ 200 [(0, .ref 18), (1, .int (iI c))] [.long (lI 57), .long (lI 48), .long (lI (-1))] _ _ _ _
      refine pm_e_call (T2 := pm_mm147) pm_a151_200 rfl rfl rfl rfl rfl rfl rfl rfl rfl ?_
      show pm_E none _ _ 0 [(0, .long (lI (-1))), (2, .long (lI 48)), (4, .long (lI 57))] [] _ _ _ _
      refine M_in ⟨by omega, by omega⟩ ⟨by omega, by omega⟩ ⟨by omega, by omega⟩ (fun h_5 => ?_) (fun h_5 => ?_)
      · skip
        show pm_E _ _ _ 203 [(0, .ref 18), (1, .int (iI c))] [.int (iI 1)] _ _ _ _
        refine pm_e_iff pm_a151_203 rfl (by decide +kernel) ?_
        show pm_E _ _ _ 206 [(0, .ref 18), (1, .int (iI c))] [] _ _ _ _
        refine pm_e_sim pm_a151_206 rfl ?_
        show pm_E _ _ _ 207 [(0, .ref 18), (1, .int (iI c))] [.ref 18] _ _ _ _
        refine pm_e_sim pm_a151_207 rfl ?_
        show pm_E _ _ _ 208 [(0, .ref 18), (1, .int (iI c))] [.ref 18, .ref 18] _ _ _ _
        refine pm_i_get pm_a151_208 rfl (mh_get (j := 0) hA rfl) rfl ?_
        show pm_E _ _ _ 211 [(0, .ref 18), (1, .int (iI c))] [.int (iI i), .ref 18] _ _ _ _
        refine pm_e_sim pm_a151_211 rfl ?_
        show pm_E _ _ _ 212 [(0, .ref 18), (1, .int (iI c))] [.ref 18, .int (iI i), .ref 18] _ _ _ _
        refine pm_i_get pm_a151_212 rfl (mh_get (j := 0) hA rfl) rfl ?_
        show pm_E _ _ _ 215 [(0, .ref 18), (1, .int (iI c))] [.int (iI (s 10)), .int (iI i), .ref 18] _ _ _ _
        refine pm_e_sim pm_a151_215 rfl ?_
        refine pm_e_top (y := iI (i - (s 10))) (iI_sub _ _) ?_
        show pm_E _ _ _ 216 [(0, .ref 18), (1, .int (iI c))] [.int (iI (i - (s 10))), .ref 18] _ _ _ _
        refine pm_e_sim pm_a151_216 rfl ?_
        refine pm_e_top (y := iI 2) (by decide +kernel) ?_
        show pm_E _ _ _ 217 [(0, .ref 18), (1, .int (iI c))] [.int (iI 2), .int (iI (i - (s 10))), .ref 18] _ _ _ _
        refine pm_c_ge (t := 241) pm_a151_217 rfl ⟨by omega, by omega⟩ ⟨by omega, by omega⟩ (fun h_6 => ?_) (fun h_6 => ?_)
        · skip
          show pm_E _ _ _ 241 [(0, .ref 18), (1, .int (iI c))] [.ref 18] _ _ _ _
          refine pm_e_sim pm_a151_241 rfl ?_
          show pm_E _ _ _ 242 [(0, .ref 18), (1, .int (iI c))] [.ref 18, .ref 18] _ _ _ _
          refine pm_i_get pm_a151_242 rfl (mh_get (j := 0) hA rfl) rfl ?_
          show pm_E _ _ _ 245 [(0, .ref 18), (1, .int (iI c))] [.long (lI v), .ref 18] _ _ _ _
          refine pm_i_put pm_a151_245 rfl (mh_get (j := 0) hA rfl) rfl (Nat.le_of_ble_eq_true rfl) (Or.inl rfl) (mw_l hA _) ?_
          show pm_E _ _ _ 248 [(0, .ref 18), (1, .int (iI c))] [] _ _ _ _
          refine pm_e_sim pm_a151_248 rfl ?_
          show pm_E _ _ _ 249 [(0, .ref 18), (1, .int (iI c))] [.ref 18] _ _ _ _
          refine pm_e_sim pm_a151_249 rfl ?_
          show pm_E _ _ _ 250 [(0, .ref 18), (1, .int (iI c))] [.ref 18, .ref 18] _ _ _ _
          refine pm_i_get pm_a151_250 rfl (mh_get (j := 0) hA rfl) rfl ?_
          show pm_E _ _ _ 253 [(0, .ref 18), (1, .int (iI c))] [.int (iI i), .ref 18] _ _ _ _
          refine pm_e_sim pm_a151_253 rfl ?_
          refine pm_e_top (y := iI 1) (by decide +kernel) ?_
          show pm_E _ _ _ 254 [(0, .ref 18), (1, .int (iI c))] [.int (iI 1), .int (iI i), .ref 18] _ _ _ _
          refine pm_e_sim pm_a151_254 rfl ?_
          refine pm_e_top (y := iI (i + 1)) (iI_add _ _) ?_
          show pm_E _ _ _ 255 [(0, .ref 18), (1, .int (iI c))] [.int (iI (i + 1)), .ref 18] _ _ _ _
          refine pm_i_put pm_a151_255 rfl (mh_get (j := 0) hA rfl) rfl (Nat.le_of_ble_eq_true rfl) (Or.inl rfl) ((mw_9 hA _).trans (congrArg (fun z => mh A z _ _ _ B) (updS_s))) ?_
          show pm_E _ _ _ 258 [(0, .ref 18), (1, .int (iI c))] [] _ _ _ _
          refine pm_e_goto pm_a151_258 rfl ?_
          show pm_E _ _ _ 189 [(0, .ref 18), (1, .int (iI c))] [] _ _ _ _
          exfalso; omega
        · skip
          show pm_E _ _ _ 220 [(0, .ref 18), (1, .int (iI c))] [.ref 18] _ _ _ _
          refine pm_e_rd pm_a151_220 rfl rfl rfl ?_
          refine pm_l_top (y := lI 10) (by decide +kernel) ?_
          show pm_E _ _ _ 223 [(0, .ref 18), (1, .int (iI c))] [.long (lI 10), .ref 18] _ _ _ _
          refine pm_e_sim pm_a151_223 rfl ?_
          show pm_E _ _ _ 224 [(0, .ref 18), (1, .int (iI c))] [.ref 18, .long (lI 10), .ref 18] _ _ _ _
          refine pm_i_get pm_a151_224 rfl (mh_get (j := 0) hA rfl) rfl ?_
          show pm_E _ _ _ 227 [(0, .ref 18), (1, .int (iI c))] [.long (lI v), .long (lI 10), .ref 18] _ _ _ _
          refine pm_e_sim pm_a151_227 rfl ?_
          refine pm_l_top (y := lI (10 * v)) (lI_mul _ _) ?_
          show pm_E _ _ _ 228 [(0, .ref 18), (1, .int (iI c))] [.long (lI (10 * v)), .ref 18] _ _ _ _
          refine pm_e_sim pm_a151_228 rfl ?_
          show pm_E _ _ _ 229 [(0, .ref 18), (1, .int (iI c))] [.ref 18, .long (lI (10 * v)), .ref 18] _ _ _ _
          refine pm_i_callv (k := 18) (T2 := pm_mm152) pm_a151_229 rfl rfl rfl (mh_get (j := 0) hA rfl) ⟨Nat.le_of_ble_eq_true rfl, Nat.le_of_ble_eq_true rfl, rfl, by decide +kernel⟩ ?_
          show pm_E none _ _ 0 [(0, .ref 18)] [] _ _ _ _
          refine M_look hA (show 0 ≤ i by omega) (show i ≤ 100000 by omega) (show 0 ≤ s 4 by omega) (show s 4 ≤ 600 by omega) (fun h_7 => ?_) (fun h_7 => ?_)
          · skip
            replace h_7 : i < s 4 := h_7
            show pm_E _ _ _ 232 [(0, .ref 18), (1, .int (iI c))] [.int (iI ((a 3) (i))), .long (lI (10 * v)), .ref 18] _ _ _ _
            refine pm_e_sim pm_a151_232 rfl ?_
            refine pm_l_top (y := lI ((a 3) (i))) (iI_l ⟨by omega, by omega⟩) ?_
            show pm_E _ _ _ 233 [(0, .ref 18), (1, .int (iI c))] [.long (lI ((a 3) (i))), .long (lI (10 * v)), .ref 18] _ _ _ _
            refine pm_e_sim pm_a151_233 rfl ?_
            refine pm_l_top (y := lI ((10 * v) + ((a 3) (i)))) (lI_add _ _) ?_
            show pm_E _ _ _ 234 [(0, .ref 18), (1, .int (iI c))] [.long (lI ((10 * v) + ((a 3) (i)))), .ref 18] _ _ _ _
            refine pm_e_rd pm_a151_234 rfl rfl rfl ?_
            refine pm_l_top (y := lI 48) (by decide +kernel) ?_
            show pm_E _ _ _ 237 [(0, .ref 18), (1, .int (iI c))] [.long (lI 48), .long (lI ((10 * v) + ((a 3) (i)))), .ref 18] _ _ _ _
            refine pm_e_sim pm_a151_237 rfl ?_
            refine pm_l_top (y := lI (((10 * v) + ((a 3) (i))) - 48)) (lI_sub _ _) ?_
            show pm_E _ _ _ 238 [(0, .ref 18), (1, .int (iI c))] [.long (lI (((10 * v) + ((a 3) (i))) - 48)), .ref 18] _ _ _ _
            refine pm_e_goto pm_a151_238 rfl ?_
            show pm_E _ _ _ 245 [(0, .ref 18), (1, .int (iI c))] [.long (lI (((10 * v) + ((a 3) (i))) - 48)), .ref 18] _ _ _ _
            refine pm_i_put pm_a151_245 rfl (mh_get (j := 0) hA rfl) rfl (Nat.le_of_ble_eq_true rfl) (Or.inl rfl) (mw_l hA _) ?_
            show pm_E _ _ _ 248 [(0, .ref 18), (1, .int (iI c))] [] _ _ _ _
            refine pm_e_sim pm_a151_248 rfl ?_
            show pm_E _ _ _ 249 [(0, .ref 18), (1, .int (iI c))] [.ref 18] _ _ _ _
            refine pm_e_sim pm_a151_249 rfl ?_
            show pm_E _ _ _ 250 [(0, .ref 18), (1, .int (iI c))] [.ref 18, .ref 18] _ _ _ _
            refine pm_i_get pm_a151_250 rfl (mh_get (j := 0) hA rfl) rfl ?_
            show pm_E _ _ _ 253 [(0, .ref 18), (1, .int (iI c))] [.int (iI i), .ref 18] _ _ _ _
            refine pm_e_sim pm_a151_253 rfl ?_
            refine pm_e_top (y := iI 1) (by decide +kernel) ?_
            show pm_E _ _ _ 254 [(0, .ref 18), (1, .int (iI c))] [.int (iI 1), .int (iI i), .ref 18] _ _ _ _
            refine pm_e_sim pm_a151_254 rfl ?_
            refine pm_e_top (y := iI (i + 1)) (iI_add _ _) ?_
            show pm_E _ _ _ 255 [(0, .ref 18), (1, .int (iI c))] [.int (iI (i + 1)), .ref 18] _ _ _ _
            refine pm_i_put pm_a151_255 rfl (mh_get (j := 0) hA rfl) rfl (Nat.le_of_ble_eq_true rfl) (Or.inl rfl) ((mw_9 hA _).trans (congrArg (fun z => mh A z _ _ _ B) (updS_s))) ?_
            show pm_E _ _ _ 258 [(0, .ref 18), (1, .int (iI c))] [] _ _ _ _
            refine pm_e_goto pm_a151_258 rfl ?_
            show pm_E _ _ _ 189 [(0, .ref 18), (1, .int (iI c))] [] _ _ _ _
            exfalso; omega
          · skip
            replace h_7 : s 4 ≤ i := h_7
            show pm_E _ _ _ 232 [(0, .ref 18), (1, .int (iI c))] [.int (iI (-1)), .long (lI (10 * v)), .ref 18] _ _ _ _
            refine pm_e_sim pm_a151_232 rfl ?_
            refine pm_l_top (y := lI ((-1))) (iI_l ⟨by omega, by omega⟩) ?_
            show pm_E _ _ _ 233 [(0, .ref 18), (1, .int (iI c))] [.long (lI (-1)), .long (lI (10 * v)), .ref 18] _ _ _ _
            refine pm_e_sim pm_a151_233 rfl ?_
            refine pm_l_top (y := lI ((10 * v) + (-1))) (lI_add _ _) ?_
            show pm_E _ _ _ 234 [(0, .ref 18), (1, .int (iI c))] [.long (lI ((10 * v) + (-1))), .ref 18] _ _ _ _
            refine pm_e_rd pm_a151_234 rfl rfl rfl ?_
            refine pm_l_top (y := lI 48) (by decide +kernel) ?_
            show pm_E _ _ _ 237 [(0, .ref 18), (1, .int (iI c))] [.long (lI 48), .long (lI ((10 * v) + (-1))), .ref 18] _ _ _ _
            refine pm_e_sim pm_a151_237 rfl ?_
            refine pm_l_top (y := lI (((10 * v) + (-1)) - 48)) (lI_sub _ _) ?_
            show pm_E _ _ _ 238 [(0, .ref 18), (1, .int (iI c))] [.long (lI (((10 * v) + (-1)) - 48)), .ref 18] _ _ _ _
            refine pm_e_goto pm_a151_238 rfl ?_
            show pm_E _ _ _ 245 [(0, .ref 18), (1, .int (iI c))] [.long (lI (((10 * v) + (-1)) - 48)), .ref 18] _ _ _ _
            refine pm_i_put pm_a151_245 rfl (mh_get (j := 0) hA rfl) rfl (Nat.le_of_ble_eq_true rfl) (Or.inl rfl) (mw_l hA _) ?_
            show pm_E _ _ _ 248 [(0, .ref 18), (1, .int (iI c))] [] _ _ _ _
            refine pm_e_sim pm_a151_248 rfl ?_
            show pm_E _ _ _ 249 [(0, .ref 18), (1, .int (iI c))] [.ref 18] _ _ _ _
            refine pm_e_sim pm_a151_249 rfl ?_
            show pm_E _ _ _ 250 [(0, .ref 18), (1, .int (iI c))] [.ref 18, .ref 18] _ _ _ _
            refine pm_i_get pm_a151_250 rfl (mh_get (j := 0) hA rfl) rfl ?_
            show pm_E _ _ _ 253 [(0, .ref 18), (1, .int (iI c))] [.int (iI i), .ref 18] _ _ _ _
            refine pm_e_sim pm_a151_253 rfl ?_
            refine pm_e_top (y := iI 1) (by decide +kernel) ?_
            show pm_E _ _ _ 254 [(0, .ref 18), (1, .int (iI c))] [.int (iI 1), .int (iI i), .ref 18] _ _ _ _
            refine pm_e_sim pm_a151_254 rfl ?_
            refine pm_e_top (y := iI (i + 1)) (iI_add _ _) ?_
            show pm_E _ _ _ 255 [(0, .ref 18), (1, .int (iI c))] [.int (iI (i + 1)), .ref 18] _ _ _ _
            refine pm_i_put pm_a151_255 rfl (mh_get (j := 0) hA rfl) rfl (Nat.le_of_ble_eq_true rfl) (Or.inl rfl) ((mw_9 hA _).trans (congrArg (fun z => mh A z _ _ _ B) (updS_s))) ?_
            show pm_E _ _ _ 258 [(0, .ref 18), (1, .int (iI c))] [] _ _ _ _
            refine pm_e_goto pm_a151_258 rfl ?_
            show pm_E _ _ _ 189 [(0, .ref 18), (1, .int (iI c))] [] _ _ _ _
            exfalso; omega
      · skip
        show pm_E _ _ _ 203 [(0, .ref 18), (1, .int (iI c))] [.int (iI 0)] _ _ _ _
        refine pm_e_ift pm_a151_203 rfl (by decide +kernel) ?_
        show pm_E _ _ _ 261 [(0, .ref 18), (1, .int (iI c))] [] _ _ _ _
        rw [rdl_n (by omega)] at k
        exact k
  | succ f ih =>
    intro i v hb1 hi0 hi1 hi2 k
    have hr1 := hr i
    refine pm_e_sim pm_a151_189 rfl ?_
    show pm_E _ _ _ 190 [(0, .ref 18), (1, .int (iI c))] [.ref 18] _ _ _ _
    refine pm_i_callv (k := 18) (T2 := pm_mm152) pm_a151_190 rfl rfl rfl (mh_get (j := 0) hA rfl) ⟨Nat.le_of_ble_eq_true rfl, Nat.le_of_ble_eq_true rfl, rfl, by decide +kernel⟩ ?_
    show pm_E none _ _ 0 [(0, .ref 18)] [] _ _ _ _
    refine M_look hA (show 0 ≤ i by omega) (show i ≤ 100000 by omega) (show 0 ≤ s 4 by omega) (show s 4 ≤ 600 by omega) (fun h_1 => ?_) (fun h_1 => ?_)
    · skip
      replace h_1 : i < s 4 := h_1
      show pm_E _ _ _ 193 [(0, .ref 18), (1, .int (iI c))] [.int (iI ((a 3) (i)))] _ _ _ _
      refine pm_e_sim pm_a151_193 rfl ?_
      refine pm_l_top (y := lI ((a 3) (i))) (iI_l ⟨by omega, by omega⟩) ?_
      show pm_E _ _ _ 194 [(0, .ref 18), (1, .int (iI c))] [.long (lI ((a 3) (i)))] _ _ _ _
      refine pm_e_rd pm_a151_194 rfl rfl rfl ?_
      refine pm_l_top (y := lI 48) (by decide +kernel) ?_
      show pm_E _ _ _ 197 [(0, .ref 18), (1, .int (iI c))] [.long (lI 48), .long (lI ((a 3) (i)))] _ _ _ _
      refine pm_e_rd pm_a151_197 rfl rfl rfl ?_
      refine pm_l_top (y := lI 57) (by decide +kernel) ?_
      show pm_E _ _ _ 200 [(0, .ref 18), (1, .int (iI c))] [.long (lI 57), .long (lI 48), .long (lI ((a 3) (i)))] _ _ _ _
      refine pm_e_call (T2 := pm_mm147) pm_a151_200 rfl rfl rfl rfl rfl rfl rfl rfl rfl ?_
      show pm_E none _ _ 0 [(0, .long (lI ((a 3) (i)))), (2, .long (lI 48)), (4, .long (lI 57))] [] _ _ _ _
      refine M_in ⟨by omega, by omega⟩ ⟨by omega, by omega⟩ ⟨by omega, by omega⟩ (fun h_2 => ?_) (fun h_2 => ?_)
      · skip
        show pm_E _ _ _ 203 [(0, .ref 18), (1, .int (iI c))] [.int (iI 1)] _ _ _ _
        refine pm_e_iff pm_a151_203 rfl (by decide +kernel) ?_
        show pm_E _ _ _ 206 [(0, .ref 18), (1, .int (iI c))] [] _ _ _ _
        refine pm_e_sim pm_a151_206 rfl ?_
        show pm_E _ _ _ 207 [(0, .ref 18), (1, .int (iI c))] [.ref 18] _ _ _ _
        refine pm_e_sim pm_a151_207 rfl ?_
        show pm_E _ _ _ 208 [(0, .ref 18), (1, .int (iI c))] [.ref 18, .ref 18] _ _ _ _
        refine pm_i_get pm_a151_208 rfl (mh_get (j := 0) hA rfl) rfl ?_
        show pm_E _ _ _ 211 [(0, .ref 18), (1, .int (iI c))] [.int (iI i), .ref 18] _ _ _ _
        refine pm_e_sim pm_a151_211 rfl ?_
        show pm_E _ _ _ 212 [(0, .ref 18), (1, .int (iI c))] [.ref 18, .int (iI i), .ref 18] _ _ _ _
        refine pm_i_get pm_a151_212 rfl (mh_get (j := 0) hA rfl) rfl ?_
        show pm_E _ _ _ 215 [(0, .ref 18), (1, .int (iI c))] [.int (iI (s 10)), .int (iI i), .ref 18] _ _ _ _
        refine pm_e_sim pm_a151_215 rfl ?_
        refine pm_e_top (y := iI (i - (s 10))) (iI_sub _ _) ?_
        show pm_E _ _ _ 216 [(0, .ref 18), (1, .int (iI c))] [.int (iI (i - (s 10))), .ref 18] _ _ _ _
        refine pm_e_sim pm_a151_216 rfl ?_
        refine pm_e_top (y := iI 2) (by decide +kernel) ?_
        show pm_E _ _ _ 217 [(0, .ref 18), (1, .int (iI c))] [.int (iI 2), .int (iI (i - (s 10))), .ref 18] _ _ _ _
        refine pm_c_ge (t := 241) pm_a151_217 rfl ⟨by omega, by omega⟩ ⟨by omega, by omega⟩ (fun h_3 => ?_) (fun h_3 => ?_)
        · skip
          show pm_E _ _ _ 241 [(0, .ref 18), (1, .int (iI c))] [.ref 18] _ _ _ _
          refine pm_e_sim pm_a151_241 rfl ?_
          show pm_E _ _ _ 242 [(0, .ref 18), (1, .int (iI c))] [.ref 18, .ref 18] _ _ _ _
          refine pm_i_get pm_a151_242 rfl (mh_get (j := 0) hA rfl) rfl ?_
          show pm_E _ _ _ 245 [(0, .ref 18), (1, .int (iI c))] [.long (lI v), .ref 18] _ _ _ _
          refine pm_i_put pm_a151_245 rfl (mh_get (j := 0) hA rfl) rfl (Nat.le_of_ble_eq_true rfl) (Or.inl rfl) (mw_l hA _) ?_
          show pm_E _ _ _ 248 [(0, .ref 18), (1, .int (iI c))] [] _ _ _ _
          refine pm_e_sim pm_a151_248 rfl ?_
          show pm_E _ _ _ 249 [(0, .ref 18), (1, .int (iI c))] [.ref 18] _ _ _ _
          refine pm_e_sim pm_a151_249 rfl ?_
          show pm_E _ _ _ 250 [(0, .ref 18), (1, .int (iI c))] [.ref 18, .ref 18] _ _ _ _
          refine pm_i_get pm_a151_250 rfl (mh_get (j := 0) hA rfl) rfl ?_
          show pm_E _ _ _ 253 [(0, .ref 18), (1, .int (iI c))] [.int (iI i), .ref 18] _ _ _ _
          refine pm_e_sim pm_a151_253 rfl ?_
          refine pm_e_top (y := iI 1) (by decide +kernel) ?_
          show pm_E _ _ _ 254 [(0, .ref 18), (1, .int (iI c))] [.int (iI 1), .int (iI i), .ref 18] _ _ _ _
          refine pm_e_sim pm_a151_254 rfl ?_
          refine pm_e_top (y := iI (i + 1)) (iI_add _ _) ?_
          show pm_E _ _ _ 255 [(0, .ref 18), (1, .int (iI c))] [.int (iI (i + 1)), .ref 18] _ _ _ _
          refine pm_i_put pm_a151_255 rfl (mh_get (j := 0) hA rfl) rfl (Nat.le_of_ble_eq_true rfl) (Or.inl rfl) ((mw_9 hA _).trans (congrArg (fun z => mh A z _ _ _ B) (updS_s))) ?_
          show pm_E _ _ _ 258 [(0, .ref 18), (1, .int (iI c))] [] _ _ _ _
          refine pm_e_goto pm_a151_258 rfl ?_
          show pm_E _ _ _ 189 [(0, .ref 18), (1, .int (iI c))] [] _ _ _ _
          rw [rdl_z (by omega) (by omega) (by omega) (by omega)] at k
          exact ih (i + 1) _ (by omega) (by omega) (by omega) (by omega) k
        · skip
          show pm_E _ _ _ 220 [(0, .ref 18), (1, .int (iI c))] [.ref 18] _ _ _ _
          refine pm_e_rd pm_a151_220 rfl rfl rfl ?_
          refine pm_l_top (y := lI 10) (by decide +kernel) ?_
          show pm_E _ _ _ 223 [(0, .ref 18), (1, .int (iI c))] [.long (lI 10), .ref 18] _ _ _ _
          refine pm_e_sim pm_a151_223 rfl ?_
          show pm_E _ _ _ 224 [(0, .ref 18), (1, .int (iI c))] [.ref 18, .long (lI 10), .ref 18] _ _ _ _
          refine pm_i_get pm_a151_224 rfl (mh_get (j := 0) hA rfl) rfl ?_
          show pm_E _ _ _ 227 [(0, .ref 18), (1, .int (iI c))] [.long (lI v), .long (lI 10), .ref 18] _ _ _ _
          refine pm_e_sim pm_a151_227 rfl ?_
          refine pm_l_top (y := lI (10 * v)) (lI_mul _ _) ?_
          show pm_E _ _ _ 228 [(0, .ref 18), (1, .int (iI c))] [.long (lI (10 * v)), .ref 18] _ _ _ _
          refine pm_e_sim pm_a151_228 rfl ?_
          show pm_E _ _ _ 229 [(0, .ref 18), (1, .int (iI c))] [.ref 18, .long (lI (10 * v)), .ref 18] _ _ _ _
          refine pm_i_callv (k := 18) (T2 := pm_mm152) pm_a151_229 rfl rfl rfl (mh_get (j := 0) hA rfl) ⟨Nat.le_of_ble_eq_true rfl, Nat.le_of_ble_eq_true rfl, rfl, by decide +kernel⟩ ?_
          show pm_E none _ _ 0 [(0, .ref 18)] [] _ _ _ _
          refine M_look hA (show 0 ≤ i by omega) (show i ≤ 100000 by omega) (show 0 ≤ s 4 by omega) (show s 4 ≤ 600 by omega) (fun h_4 => ?_) (fun h_4 => ?_)
          · skip
            replace h_4 : i < s 4 := h_4
            show pm_E _ _ _ 232 [(0, .ref 18), (1, .int (iI c))] [.int (iI ((a 3) (i))), .long (lI (10 * v)), .ref 18] _ _ _ _
            refine pm_e_sim pm_a151_232 rfl ?_
            refine pm_l_top (y := lI ((a 3) (i))) (iI_l ⟨by omega, by omega⟩) ?_
            show pm_E _ _ _ 233 [(0, .ref 18), (1, .int (iI c))] [.long (lI ((a 3) (i))), .long (lI (10 * v)), .ref 18] _ _ _ _
            refine pm_e_sim pm_a151_233 rfl ?_
            refine pm_l_top (y := lI ((10 * v) + ((a 3) (i)))) (lI_add _ _) ?_
            show pm_E _ _ _ 234 [(0, .ref 18), (1, .int (iI c))] [.long (lI ((10 * v) + ((a 3) (i)))), .ref 18] _ _ _ _
            refine pm_e_rd pm_a151_234 rfl rfl rfl ?_
            refine pm_l_top (y := lI 48) (by decide +kernel) ?_
            show pm_E _ _ _ 237 [(0, .ref 18), (1, .int (iI c))] [.long (lI 48), .long (lI ((10 * v) + ((a 3) (i)))), .ref 18] _ _ _ _
            refine pm_e_sim pm_a151_237 rfl ?_
            refine pm_l_top (y := lI (((10 * v) + ((a 3) (i))) - 48)) (lI_sub _ _) ?_
            show pm_E _ _ _ 238 [(0, .ref 18), (1, .int (iI c))] [.long (lI (((10 * v) + ((a 3) (i))) - 48)), .ref 18] _ _ _ _
            refine pm_e_goto pm_a151_238 rfl ?_
            show pm_E _ _ _ 245 [(0, .ref 18), (1, .int (iI c))] [.long (lI (((10 * v) + ((a 3) (i))) - 48)), .ref 18] _ _ _ _
            refine pm_i_put pm_a151_245 rfl (mh_get (j := 0) hA rfl) rfl (Nat.le_of_ble_eq_true rfl) (Or.inl rfl) (mw_l hA _) ?_
            show pm_E _ _ _ 248 [(0, .ref 18), (1, .int (iI c))] [] _ _ _ _
            refine pm_e_sim pm_a151_248 rfl ?_
            show pm_E _ _ _ 249 [(0, .ref 18), (1, .int (iI c))] [.ref 18] _ _ _ _
            refine pm_e_sim pm_a151_249 rfl ?_
            show pm_E _ _ _ 250 [(0, .ref 18), (1, .int (iI c))] [.ref 18, .ref 18] _ _ _ _
            refine pm_i_get pm_a151_250 rfl (mh_get (j := 0) hA rfl) rfl ?_
            show pm_E _ _ _ 253 [(0, .ref 18), (1, .int (iI c))] [.int (iI i), .ref 18] _ _ _ _
            refine pm_e_sim pm_a151_253 rfl ?_
            refine pm_e_top (y := iI 1) (by decide +kernel) ?_
            show pm_E _ _ _ 254 [(0, .ref 18), (1, .int (iI c))] [.int (iI 1), .int (iI i), .ref 18] _ _ _ _
            refine pm_e_sim pm_a151_254 rfl ?_
            refine pm_e_top (y := iI (i + 1)) (iI_add _ _) ?_
            show pm_E _ _ _ 255 [(0, .ref 18), (1, .int (iI c))] [.int (iI (i + 1)), .ref 18] _ _ _ _
            refine pm_i_put pm_a151_255 rfl (mh_get (j := 0) hA rfl) rfl (Nat.le_of_ble_eq_true rfl) (Or.inl rfl) ((mw_9 hA _).trans (congrArg (fun z => mh A z _ _ _ B) (updS_s))) ?_
            show pm_E _ _ _ 258 [(0, .ref 18), (1, .int (iI c))] [] _ _ _ _
            refine pm_e_goto pm_a151_258 rfl ?_
            show pm_E _ _ _ 189 [(0, .ref 18), (1, .int (iI c))] [] _ _ _ _
            rw [rdl_y (by omega) (by omega) (by omega) (by omega)] at k
            exact ih (i + 1) _ (by omega) (by omega) (by omega) (by omega) k
          · skip
            replace h_4 : s 4 ≤ i := h_4
            show pm_E _ _ _ 232 [(0, .ref 18), (1, .int (iI c))] [.int (iI (-1)), .long (lI (10 * v)), .ref 18] _ _ _ _
            refine pm_e_sim pm_a151_232 rfl ?_
            refine pm_l_top (y := lI ((-1))) (iI_l ⟨by omega, by omega⟩) ?_
            show pm_E _ _ _ 233 [(0, .ref 18), (1, .int (iI c))] [.long (lI (-1)), .long (lI (10 * v)), .ref 18] _ _ _ _
            refine pm_e_sim pm_a151_233 rfl ?_
            refine pm_l_top (y := lI ((10 * v) + (-1))) (lI_add _ _) ?_
            show pm_E _ _ _ 234 [(0, .ref 18), (1, .int (iI c))] [.long (lI ((10 * v) + (-1))), .ref 18] _ _ _ _
            refine pm_e_rd pm_a151_234 rfl rfl rfl ?_
            refine pm_l_top (y := lI 48) (by decide +kernel) ?_
            show pm_E _ _ _ 237 [(0, .ref 18), (1, .int (iI c))] [.long (lI 48), .long (lI ((10 * v) + (-1))), .ref 18] _ _ _ _
            refine pm_e_sim pm_a151_237 rfl ?_
            refine pm_l_top (y := lI (((10 * v) + (-1)) - 48)) (lI_sub _ _) ?_
            show pm_E _ _ _ 238 [(0, .ref 18), (1, .int (iI c))] [.long (lI (((10 * v) + (-1)) - 48)), .ref 18] _ _ _ _
            refine pm_e_goto pm_a151_238 rfl ?_
            show pm_E _ _ _ 245 [(0, .ref 18), (1, .int (iI c))] [.long (lI (((10 * v) + (-1)) - 48)), .ref 18] _ _ _ _
            refine pm_i_put pm_a151_245 rfl (mh_get (j := 0) hA rfl) rfl (Nat.le_of_ble_eq_true rfl) (Or.inl rfl) (mw_l hA _) ?_
            show pm_E _ _ _ 248 [(0, .ref 18), (1, .int (iI c))] [] _ _ _ _
            refine pm_e_sim pm_a151_248 rfl ?_
            show pm_E _ _ _ 249 [(0, .ref 18), (1, .int (iI c))] [.ref 18] _ _ _ _
            refine pm_e_sim pm_a151_249 rfl ?_
            show pm_E _ _ _ 250 [(0, .ref 18), (1, .int (iI c))] [.ref 18, .ref 18] _ _ _ _
            refine pm_i_get pm_a151_250 rfl (mh_get (j := 0) hA rfl) rfl ?_
            show pm_E _ _ _ 253 [(0, .ref 18), (1, .int (iI c))] [.int (iI i), .ref 18] _ _ _ _
            refine pm_e_sim pm_a151_253 rfl ?_
            refine pm_e_top (y := iI 1) (by decide +kernel) ?_
            show pm_E _ _ _ 254 [(0, .ref 18), (1, .int (iI c))] [.int (iI 1), .int (iI i), .ref 18] _ _ _ _
            refine pm_e_sim pm_a151_254 rfl ?_
            refine pm_e_top (y := iI (i + 1)) (iI_add _ _) ?_
            show pm_E _ _ _ 255 [(0, .ref 18), (1, .int (iI c))] [.int (iI (i + 1)), .ref 18] _ _ _ _
            refine pm_i_put pm_a151_255 rfl (mh_get (j := 0) hA rfl) rfl (Nat.le_of_ble_eq_true rfl) (Or.inl rfl) ((mw_9 hA _).trans (congrArg (fun z => mh A z _ _ _ B) (updS_s))) ?_
            show pm_E _ _ _ 258 [(0, .ref 18), (1, .int (iI c))] [] _ _ _ _
            refine pm_e_goto pm_a151_258 rfl ?_
            show pm_E _ _ _ 189 [(0, .ref 18), (1, .int (iI c))] [] _ _ _ _
            exfalso; omega
      · skip
        show pm_E _ _ _ 203 [(0, .ref 18), (1, .int (iI c))] [.int (iI 0)] _ _ _ _
        refine pm_e_ift pm_a151_203 rfl (by decide +kernel) ?_
        show pm_E _ _ _ 261 [(0, .ref 18), (1, .int (iI c))] [] _ _ _ _
        rw [rdl_n (by omega)] at k
        exact k
    · skip
      replace h_1 : s 4 ≤ i := h_1
      show pm_E _ _ _ 193 [(0, .ref 18), (1, .int (iI c))] [.int (iI (-1))] _ _ _ _
      refine pm_e_sim pm_a151_193 rfl ?_
      refine pm_l_top (y := lI ((-1))) (iI_l ⟨by omega, by omega⟩) ?_
      show pm_E _ _ _ 194 [(0, .ref 18), (1, .int (iI c))] [.long (lI (-1))] _ _ _ _
      refine pm_e_rd pm_a151_194 rfl rfl rfl ?_
      refine pm_l_top (y := lI 48) (by decide +kernel) ?_
      show pm_E _ _ _ 197 [(0, .ref 18), (1, .int (iI c))] [.long (lI 48), .long (lI (-1))] _ _ _ _
      refine pm_e_rd pm_a151_197 rfl rfl rfl ?_
      refine pm_l_top (y := lI 57) (by decide +kernel) ?_
      show pm_E _ _ _ 200 [(0, .ref 18), (1, .int (iI c))] [.long (lI 57), .long (lI 48), .long (lI (-1))] _ _ _ _
      refine pm_e_call (T2 := pm_mm147) pm_a151_200 rfl rfl rfl rfl rfl rfl rfl rfl rfl ?_
      show pm_E none _ _ 0 [(0, .long (lI (-1))), (2, .long (lI 48)), (4, .long (lI 57))] [] _ _ _ _
      refine M_in ⟨by omega, by omega⟩ ⟨by omega, by omega⟩ ⟨by omega, by omega⟩ (fun h_5 => ?_) (fun h_5 => ?_)
      · skip
        show pm_E _ _ _ 203 [(0, .ref 18), (1, .int (iI c))] [.int (iI 1)] _ _ _ _
        refine pm_e_iff pm_a151_203 rfl (by decide +kernel) ?_
        show pm_E _ _ _ 206 [(0, .ref 18), (1, .int (iI c))] [] _ _ _ _
        refine pm_e_sim pm_a151_206 rfl ?_
        show pm_E _ _ _ 207 [(0, .ref 18), (1, .int (iI c))] [.ref 18] _ _ _ _
        refine pm_e_sim pm_a151_207 rfl ?_
        show pm_E _ _ _ 208 [(0, .ref 18), (1, .int (iI c))] [.ref 18, .ref 18] _ _ _ _
        refine pm_i_get pm_a151_208 rfl (mh_get (j := 0) hA rfl) rfl ?_
        show pm_E _ _ _ 211 [(0, .ref 18), (1, .int (iI c))] [.int (iI i), .ref 18] _ _ _ _
        refine pm_e_sim pm_a151_211 rfl ?_
        show pm_E _ _ _ 212 [(0, .ref 18), (1, .int (iI c))] [.ref 18, .int (iI i), .ref 18] _ _ _ _
        refine pm_i_get pm_a151_212 rfl (mh_get (j := 0) hA rfl) rfl ?_
        show pm_E _ _ _ 215 [(0, .ref 18), (1, .int (iI c))] [.int (iI (s 10)), .int (iI i), .ref 18] _ _ _ _
        refine pm_e_sim pm_a151_215 rfl ?_
        refine pm_e_top (y := iI (i - (s 10))) (iI_sub _ _) ?_
        show pm_E _ _ _ 216 [(0, .ref 18), (1, .int (iI c))] [.int (iI (i - (s 10))), .ref 18] _ _ _ _
        refine pm_e_sim pm_a151_216 rfl ?_
        refine pm_e_top (y := iI 2) (by decide +kernel) ?_
        show pm_E _ _ _ 217 [(0, .ref 18), (1, .int (iI c))] [.int (iI 2), .int (iI (i - (s 10))), .ref 18] _ _ _ _
        refine pm_c_ge (t := 241) pm_a151_217 rfl ⟨by omega, by omega⟩ ⟨by omega, by omega⟩ (fun h_6 => ?_) (fun h_6 => ?_)
        · skip
          show pm_E _ _ _ 241 [(0, .ref 18), (1, .int (iI c))] [.ref 18] _ _ _ _
          refine pm_e_sim pm_a151_241 rfl ?_
          show pm_E _ _ _ 242 [(0, .ref 18), (1, .int (iI c))] [.ref 18, .ref 18] _ _ _ _
          refine pm_i_get pm_a151_242 rfl (mh_get (j := 0) hA rfl) rfl ?_
          show pm_E _ _ _ 245 [(0, .ref 18), (1, .int (iI c))] [.long (lI v), .ref 18] _ _ _ _
          refine pm_i_put pm_a151_245 rfl (mh_get (j := 0) hA rfl) rfl (Nat.le_of_ble_eq_true rfl) (Or.inl rfl) (mw_l hA _) ?_
          show pm_E _ _ _ 248 [(0, .ref 18), (1, .int (iI c))] [] _ _ _ _
          refine pm_e_sim pm_a151_248 rfl ?_
          show pm_E _ _ _ 249 [(0, .ref 18), (1, .int (iI c))] [.ref 18] _ _ _ _
          refine pm_e_sim pm_a151_249 rfl ?_
          show pm_E _ _ _ 250 [(0, .ref 18), (1, .int (iI c))] [.ref 18, .ref 18] _ _ _ _
          refine pm_i_get pm_a151_250 rfl (mh_get (j := 0) hA rfl) rfl ?_
          show pm_E _ _ _ 253 [(0, .ref 18), (1, .int (iI c))] [.int (iI i), .ref 18] _ _ _ _
          refine pm_e_sim pm_a151_253 rfl ?_
          refine pm_e_top (y := iI 1) (by decide +kernel) ?_
          show pm_E _ _ _ 254 [(0, .ref 18), (1, .int (iI c))] [.int (iI 1), .int (iI i), .ref 18] _ _ _ _
          refine pm_e_sim pm_a151_254 rfl ?_
          refine pm_e_top (y := iI (i + 1)) (iI_add _ _) ?_
          show pm_E _ _ _ 255 [(0, .ref 18), (1, .int (iI c))] [.int (iI (i + 1)), .ref 18] _ _ _ _
          refine pm_i_put pm_a151_255 rfl (mh_get (j := 0) hA rfl) rfl (Nat.le_of_ble_eq_true rfl) (Or.inl rfl) ((mw_9 hA _).trans (congrArg (fun z => mh A z _ _ _ B) (updS_s))) ?_
          show pm_E _ _ _ 258 [(0, .ref 18), (1, .int (iI c))] [] _ _ _ _
          refine pm_e_goto pm_a151_258 rfl ?_
          show pm_E _ _ _ 189 [(0, .ref 18), (1, .int (iI c))] [] _ _ _ _
          rw [rdl_z (by omega) (by omega) (by omega) (by omega)] at k
          exact ih (i + 1) _ (by omega) (by omega) (by omega) (by omega) k
        · skip
          show pm_E _ _ _ 220 [(0, .ref 18), (1, .int (iI c))] [.ref 18] _ _ _ _
          refine pm_e_rd pm_a151_220 rfl rfl rfl ?_
          refine pm_l_top (y := lI 10) (by decide +kernel) ?_
          show pm_E _ _ _ 223 [(0, .ref 18), (1, .int (iI c))] [.long (lI 10), .ref 18] _ _ _ _
          refine pm_e_sim pm_a151_223 rfl ?_
          show pm_E _ _ _ 224 [(0, .ref 18), (1, .int (iI c))] [.ref 18, .long (lI 10), .ref 18] _ _ _ _
          refine pm_i_get pm_a151_224 rfl (mh_get (j := 0) hA rfl) rfl ?_
          show pm_E _ _ _ 227 [(0, .ref 18), (1, .int (iI c))] [.long (lI v), .long (lI 10), .ref 18] _ _ _ _
          refine pm_e_sim pm_a151_227 rfl ?_
          refine pm_l_top (y := lI (10 * v)) (lI_mul _ _) ?_
          show pm_E _ _ _ 228 [(0, .ref 18), (1, .int (iI c))] [.long (lI (10 * v)), .ref 18] _ _ _ _
          refine pm_e_sim pm_a151_228 rfl ?_
          show pm_E _ _ _ 229 [(0, .ref 18), (1, .int (iI c))] [.ref 18, .long (lI (10 * v)), .ref 18] _ _ _ _
          refine pm_i_callv (k := 18) (T2 := pm_mm152) pm_a151_229 rfl rfl rfl (mh_get (j := 0) hA rfl) ⟨Nat.le_of_ble_eq_true rfl, Nat.le_of_ble_eq_true rfl, rfl, by decide +kernel⟩ ?_
          show pm_E none _ _ 0 [(0, .ref 18)] [] _ _ _ _
          refine M_look hA (show 0 ≤ i by omega) (show i ≤ 100000 by omega) (show 0 ≤ s 4 by omega) (show s 4 ≤ 600 by omega) (fun h_7 => ?_) (fun h_7 => ?_)
          · skip
            replace h_7 : i < s 4 := h_7
            show pm_E _ _ _ 232 [(0, .ref 18), (1, .int (iI c))] [.int (iI ((a 3) (i))), .long (lI (10 * v)), .ref 18] _ _ _ _
            refine pm_e_sim pm_a151_232 rfl ?_
            refine pm_l_top (y := lI ((a 3) (i))) (iI_l ⟨by omega, by omega⟩) ?_
            show pm_E _ _ _ 233 [(0, .ref 18), (1, .int (iI c))] [.long (lI ((a 3) (i))), .long (lI (10 * v)), .ref 18] _ _ _ _
            refine pm_e_sim pm_a151_233 rfl ?_
            refine pm_l_top (y := lI ((10 * v) + ((a 3) (i)))) (lI_add _ _) ?_
            show pm_E _ _ _ 234 [(0, .ref 18), (1, .int (iI c))] [.long (lI ((10 * v) + ((a 3) (i)))), .ref 18] _ _ _ _
            refine pm_e_rd pm_a151_234 rfl rfl rfl ?_
            refine pm_l_top (y := lI 48) (by decide +kernel) ?_
            show pm_E _ _ _ 237 [(0, .ref 18), (1, .int (iI c))] [.long (lI 48), .long (lI ((10 * v) + ((a 3) (i)))), .ref 18] _ _ _ _
            refine pm_e_sim pm_a151_237 rfl ?_
            refine pm_l_top (y := lI (((10 * v) + ((a 3) (i))) - 48)) (lI_sub _ _) ?_
            show pm_E _ _ _ 238 [(0, .ref 18), (1, .int (iI c))] [.long (lI (((10 * v) + ((a 3) (i))) - 48)), .ref 18] _ _ _ _
            refine pm_e_goto pm_a151_238 rfl ?_
            show pm_E _ _ _ 245 [(0, .ref 18), (1, .int (iI c))] [.long (lI (((10 * v) + ((a 3) (i))) - 48)), .ref 18] _ _ _ _
            refine pm_i_put pm_a151_245 rfl (mh_get (j := 0) hA rfl) rfl (Nat.le_of_ble_eq_true rfl) (Or.inl rfl) (mw_l hA _) ?_
            show pm_E _ _ _ 248 [(0, .ref 18), (1, .int (iI c))] [] _ _ _ _
            refine pm_e_sim pm_a151_248 rfl ?_
            show pm_E _ _ _ 249 [(0, .ref 18), (1, .int (iI c))] [.ref 18] _ _ _ _
            refine pm_e_sim pm_a151_249 rfl ?_
            show pm_E _ _ _ 250 [(0, .ref 18), (1, .int (iI c))] [.ref 18, .ref 18] _ _ _ _
            refine pm_i_get pm_a151_250 rfl (mh_get (j := 0) hA rfl) rfl ?_
            show pm_E _ _ _ 253 [(0, .ref 18), (1, .int (iI c))] [.int (iI i), .ref 18] _ _ _ _
            refine pm_e_sim pm_a151_253 rfl ?_
            refine pm_e_top (y := iI 1) (by decide +kernel) ?_
            show pm_E _ _ _ 254 [(0, .ref 18), (1, .int (iI c))] [.int (iI 1), .int (iI i), .ref 18] _ _ _ _
            refine pm_e_sim pm_a151_254 rfl ?_
            refine pm_e_top (y := iI (i + 1)) (iI_add _ _) ?_
            show pm_E _ _ _ 255 [(0, .ref 18), (1, .int (iI c))] [.int (iI (i + 1)), .ref 18] _ _ _ _
            refine pm_i_put pm_a151_255 rfl (mh_get (j := 0) hA rfl) rfl (Nat.le_of_ble_eq_true rfl) (Or.inl rfl) ((mw_9 hA _).trans (congrArg (fun z => mh A z _ _ _ B) (updS_s))) ?_
            show pm_E _ _ _ 258 [(0, .ref 18), (1, .int (iI c))] [] _ _ _ _
            refine pm_e_goto pm_a151_258 rfl ?_
            show pm_E _ _ _ 189 [(0, .ref 18), (1, .int (iI c))] [] _ _ _ _
            rw [rdl_y (by omega) (by omega) (by omega) (by omega)] at k
            exact ih (i + 1) _ (by omega) (by omega) (by omega) (by omega) k
          · skip
            replace h_7 : s 4 ≤ i := h_7
            show pm_E _ _ _ 232 [(0, .ref 18), (1, .int (iI c))] [.int (iI (-1)), .long (lI (10 * v)), .ref 18] _ _ _ _
            refine pm_e_sim pm_a151_232 rfl ?_
            refine pm_l_top (y := lI ((-1))) (iI_l ⟨by omega, by omega⟩) ?_
            show pm_E _ _ _ 233 [(0, .ref 18), (1, .int (iI c))] [.long (lI (-1)), .long (lI (10 * v)), .ref 18] _ _ _ _
            refine pm_e_sim pm_a151_233 rfl ?_
            refine pm_l_top (y := lI ((10 * v) + (-1))) (lI_add _ _) ?_
            show pm_E _ _ _ 234 [(0, .ref 18), (1, .int (iI c))] [.long (lI ((10 * v) + (-1))), .ref 18] _ _ _ _
            refine pm_e_rd pm_a151_234 rfl rfl rfl ?_
            refine pm_l_top (y := lI 48) (by decide +kernel) ?_
            show pm_E _ _ _ 237 [(0, .ref 18), (1, .int (iI c))] [.long (lI 48), .long (lI ((10 * v) + (-1))), .ref 18] _ _ _ _
            refine pm_e_sim pm_a151_237 rfl ?_
            refine pm_l_top (y := lI (((10 * v) + (-1)) - 48)) (lI_sub _ _) ?_
            show pm_E _ _ _ 238 [(0, .ref 18), (1, .int (iI c))] [.long (lI (((10 * v) + (-1)) - 48)), .ref 18] _ _ _ _
            refine pm_e_goto pm_a151_238 rfl ?_
            show pm_E _ _ _ 245 [(0, .ref 18), (1, .int (iI c))] [.long (lI (((10 * v) + (-1)) - 48)), .ref 18] _ _ _ _
            refine pm_i_put pm_a151_245 rfl (mh_get (j := 0) hA rfl) rfl (Nat.le_of_ble_eq_true rfl) (Or.inl rfl) (mw_l hA _) ?_
            show pm_E _ _ _ 248 [(0, .ref 18), (1, .int (iI c))] [] _ _ _ _
            refine pm_e_sim pm_a151_248 rfl ?_
            show pm_E _ _ _ 249 [(0, .ref 18), (1, .int (iI c))] [.ref 18] _ _ _ _
            refine pm_e_sim pm_a151_249 rfl ?_
            show pm_E _ _ _ 250 [(0, .ref 18), (1, .int (iI c))] [.ref 18, .ref 18] _ _ _ _
            refine pm_i_get pm_a151_250 rfl (mh_get (j := 0) hA rfl) rfl ?_
            show pm_E _ _ _ 253 [(0, .ref 18), (1, .int (iI c))] [.int (iI i), .ref 18] _ _ _ _
            refine pm_e_sim pm_a151_253 rfl ?_
            refine pm_e_top (y := iI 1) (by decide +kernel) ?_
            show pm_E _ _ _ 254 [(0, .ref 18), (1, .int (iI c))] [.int (iI 1), .int (iI i), .ref 18] _ _ _ _
            refine pm_e_sim pm_a151_254 rfl ?_
            refine pm_e_top (y := iI (i + 1)) (iI_add _ _) ?_
            show pm_E _ _ _ 255 [(0, .ref 18), (1, .int (iI c))] [.int (iI (i + 1)), .ref 18] _ _ _ _
            refine pm_i_put pm_a151_255 rfl (mh_get (j := 0) hA rfl) rfl (Nat.le_of_ble_eq_true rfl) (Or.inl rfl) ((mw_9 hA _).trans (congrArg (fun z => mh A z _ _ _ B) (updS_s))) ?_
            show pm_E _ _ _ 258 [(0, .ref 18), (1, .int (iI c))] [] _ _ _ _
            refine pm_e_goto pm_a151_258 rfl ?_
            show pm_E _ _ _ 189 [(0, .ref 18), (1, .int (iI c))] [] _ _ _ _
            exfalso; omega
      · skip
        show pm_E _ _ _ 203 [(0, .ref 18), (1, .int (iI c))] [.int (iI 0)] _ _ _ _
        refine pm_e_ift pm_a151_203 rfl (by decide +kernel) ?_
        show pm_E _ _ _ 261 [(0, .ref 18), (1, .int (iI c))] [] _ _ _ _
        rw [rdl_n (by omega)] at k
        exact k
