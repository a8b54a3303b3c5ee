/-! THE REFERENCE: fails, look, letterOf, isSign, level, lay, told, add -/
set_option maxHeartbeats 4000000 in
set_option maxRecDepth 100000 in
theorem M_fails {d : Nat} {A B : List va_E} {s : Nat → Int} {vl : Int64} {a : Nat → Int → Int} {nm : Nat → Int64} {Q : Option Value → List va_E → Nat → Nat → Prop} {x y : Int} (hA : A.length = 18) (hf : in32 (s 13)) (k1 : s 13 = 0 → Q none (mh A (updS (updS s 13 x) 14 y) vl a nm B) 0 0) (k2 : s 13 ≠ 0 → Q none (mh A s vl a nm B) 0 0) : pm_E none d pm_mm153 0 [(0, .ref 18), (1, .int (iI x)), (2, .int (iI y))] [] (mh A s vl a nm B) 0 0 Q := by
  refine pm_e_sim pm_a153_0 rfl ?_
  show pm_E _ _ _ 1 [(0, .ref 18), (1, .int (iI x)), (2, .int (iI y))] [.ref 18] _ _ _ _
  refine pm_i_get pm_a153_1 rfl (mh_get (j := 0) hA rfl) rfl ?_
  show pm_E _ _ _ 4 [(0, .ref 18), (1, .int (iI x)), (2, .int (iI y))] [.int (iI (s 13))] _ _ _ _
  refine pm_i_ne (t := 17) pm_a153_4 rfl ⟨by omega, by omega⟩ (fun h_1 => ?_) (fun h_1 => ?_)
  · skip
    show pm_E _ _ _ 17 [(0, .ref 18), (1, .int (iI x)), (2, .int (iI y))] [] _ _ _ _
    refine pm_e_ret pm_a153_17 rfl rfl rfl rfl rfl rfl rfl rfl ?_
    exact k2 (by omega)
  · skip
    show pm_E _ _ _ 7 [(0, .ref 18), (1, .int (iI x)), (2, .int (iI y))] [] _ _ _ _
    refine pm_e_sim pm_a153_7 rfl ?_
    show pm_E _ _ _ 8 [(0, .ref 18), (1, .int (iI x)), (2, .int (iI y))] [.ref 18] _ _ _ _
    refine pm_e_sim pm_a153_8 rfl ?_
    show pm_E _ _ _ 9 [(0, .ref 18), (1, .int (iI x)), (2, .int (iI y))] [.int (iI x), .ref 18] _ _ _ _
    refine pm_i_put pm_a153_9 rfl (mh_get (j := 0) hA rfl) rfl (Nat.le_of_ble_eq_true rfl) (Or.inl rfl) (mw_13 hA _) ?_
    show pm_E _ _ _ 12 [(0, .ref 18), (1, .int (iI x)), (2, .int (iI y))] [] _ _ _ _
    refine pm_e_sim pm_a153_12 rfl ?_
    show pm_E _ _ _ 13 [(0, .ref 18), (1, .int (iI x)), (2, .int (iI y))] [.ref 18] _ _ _ _
    refine pm_e_sim pm_a153_13 rfl ?_
    show pm_E _ _ _ 14 [(0, .ref 18), (1, .int (iI x)), (2, .int (iI y))] [.int (iI y), .ref 18] _ _ _ _
    refine pm_i_put pm_a153_14 rfl (mh_get (j := 0) hA rfl) rfl (Nat.le_of_ble_eq_true rfl) (Or.inl rfl) (mw_14 hA _) ?_
    show pm_E _ _ _ 17 [(0, .ref 18), (1, .int (iI x)), (2, .int (iI y))] [] _ _ _ _
    refine pm_e_ret pm_a153_17 rfl rfl rfl rfl rfl rfl rfl rfl ?_
    exact k1 (by omega)
set_option maxHeartbeats 4000000 in
set_option maxRecDepth 100000 in
theorem M_look {d : Nat} {A B : List va_E} {s : Nat → Int} {vl : Int64} {a : Nat → Int → Int} {nm : Nat → Int64} {Q : Option Value → List va_E → Nat → Nat → Prop} (hA : A.length = 18) (h0 : 0 ≤ s 9) (h1 : s 9 ≤ 100000) (h2 : 0 ≤ s 4) (h3 : s 4 ≤ 600) (k1 : s 9 < s 4 → Q (some (.int (iI (a 3 (s 9))))) (mh A s vl a nm B) 0 0) (k2 : s 4 ≤ s 9 → Q (some (.int (iI (-1)))) (mh A s vl a nm B) 0 0) : pm_E none d pm_mm152 0 [(0, .ref 18)] [] (mh A s vl a nm B) 0 0 Q := by
  refine pm_e_sim pm_a152_0 rfl ?_
  show pm_E _ _ _ 1 [(0, .ref 18)] [.ref 18] _ _ _ _
  refine pm_i_get pm_a152_1 rfl (mh_get (j := 0) hA rfl) rfl ?_
  show pm_E _ _ _ 4 [(0, .ref 18)] [.int (iI (s 9))] _ _ _ _
  refine pm_e_sim pm_a152_4 rfl ?_
  show pm_E _ _ _ 5 [(0, .ref 18)] [.ref 18, .int (iI (s 9))] _ _ _ _
  refine pm_i_get pm_a152_5 rfl (mh_get (j := 0) hA rfl) rfl ?_
  show pm_E _ _ _ 8 [(0, .ref 18)] [.int (iI (s 4)), .int (iI (s 9))] _ _ _ _
  refine pm_c_ge (t := 23) pm_a152_8 rfl ⟨by omega, by omega⟩ ⟨by omega, by omega⟩ (fun h_1 => ?_) (fun h_1 => ?_)
  · skip
    show pm_E _ _ _ 23 [(0, .ref 18)] [] _ _ _ _
    refine pm_e_sim pm_a152_23 rfl ?_
    refine pm_e_top (y := iI (-1)) (by decide +kernel) ?_
    show pm_E _ _ _ 24 [(0, .ref 18)] [.int (iI (-1))] _ _ _ _
    refine pm_e_ret pm_a152_24 rfl rfl rfl rfl rfl rfl rfl rfl ?_
    exact k2 (by omega)
  · skip
    show pm_E _ _ _ 11 [(0, .ref 18)] [] _ _ _ _
    refine pm_e_sim pm_a152_11 rfl ?_
    show pm_E _ _ _ 12 [(0, .ref 18)] [.ref 18] _ _ _ _
    refine pm_i_get pm_a152_12 rfl (mh_get (j := 0) hA rfl) rfl ?_
    show pm_E _ _ _ 15 [(0, .ref 18)] [.ref 21] _ _ _ _
    refine pm_e_sim pm_a152_15 rfl ?_
    show pm_E _ _ _ 16 [(0, .ref 18)] [.ref 18, .ref 21] _ _ _ _
    refine pm_i_get pm_a152_16 rfl (mh_get (j := 0) hA rfl) rfl ?_
    show pm_E _ _ _ 19 [(0, .ref 18)] [.int (iI (s 9)), .ref 21] _ _ _ _
    refine pm_i_ald pm_a152_19 (mh_get (j := 3) hA rfl) (by omega) (by omega) ⟨by omega, by omega⟩ ?_
    show pm_E _ _ _ 20 [(0, .ref 18)] [.int (iI ((a 3) (s 9)))] _ _ _ _
    refine pm_e_goto pm_a152_20 rfl ?_
    show pm_E _ _ _ 24 [(0, .ref 18)] [.int (iI ((a 3) (s 9)))] _ _ _ _
    refine pm_e_ret pm_a152_24 rfl rfl rfl rfl rfl rfl rfl rfl ?_
    exact k1 (by omega)
/-- the letter of a byte; -4: none -/
def lof (c : Int) : Int := if c = 83 then 2 else if c = 75 then 3 else if c = 73 then 4 else if c = 70 then 5 else if c = 88 then 6 else -4
set_option maxHeartbeats 4000000 in
set_option maxRecDepth 100000 in
theorem M_letterOf {d : Nat} {ph : List va_E} {Q : Option Value → List va_E → Nat → Nat → Prop} {x : Int} (hx : in32 x) (k : ∀ r, lof x = r → Q (some (.int (iI r))) ph 0 0) : pm_E none d pm_mm154 0 [(0, .int (iI x))] [] ph 0 0 Q := by
  refine pm_e_sim pm_a154_0 rfl ?_
  show pm_E _ _ _ 1 [(0, .int (iI x))] [.int (iI x)] _ _ _ _
  refine pm_e_sim pm_a154_1 rfl ?_
  refine pm_e_top (y := iI 83) (by decide +kernel) ?_
  show pm_E _ _ _ 3 [(0, .int (iI x))] [.int (iI 83), .int (iI x)] _ _ _ _
  refine pm_c_ne (t := 10) pm_a154_3 rfl ⟨by omega, by omega⟩ ⟨by omega, by omega⟩ (fun h_1 => ?_) (fun h_1 => ?_)
  · skip
    show pm_E _ _ _ 10 [(0, .int (iI x))] [] _ _ _ _
    refine pm_e_sim pm_a154_10 rfl ?_
    show pm_E _ _ _ 11 [(0, .int (iI x))] [.int (iI x)] _ _ _ _
    refine pm_e_sim pm_a154_11 rfl ?_
    refine pm_e_top (y := iI 75) (by decide +kernel) ?_
    show pm_E _ _ _ 13 [(0, .int (iI x))] [.int (iI 75), .int (iI x)] _ _ _ _
    refine pm_c_ne (t := 20) pm_a154_13 rfl ⟨by omega, by omega⟩ ⟨by omega, by omega⟩ (fun h_2 => ?_) (fun h_2 => ?_)
    · skip
      show pm_E _ _ _ 20 [(0, .int (iI x))] [] _ _ _ _
      refine pm_e_sim pm_a154_20 rfl ?_
      show pm_E _ _ _ 21 [(0, .int (iI x))] [.int (iI x)] _ _ _ _
      refine pm_e_sim pm_a154_21 rfl ?_
      refine pm_e_top (y := iI 73) (by decide +kernel) ?_
      show pm_E _ _ _ 23 [(0, .int (iI x))] [.int (iI 73), .int (iI x)] _ _ _ _
      refine pm_c_ne (t := 30) pm_a154_23 rfl ⟨by omega, by omega⟩ ⟨by omega, by omega⟩ (fun h_3 => ?_) (fun h_3 => ?_)
      · skip
        show pm_E _ _ _ 30 [(0, .int (iI x))] [] _ _ _ _
        refine pm_e_sim pm_a154_30 rfl ?_
        show pm_E _ _ _ 31 [(0, .int (iI x))] [.int (iI x)] _ _ _ _
        refine pm_e_sim pm_a154_31 rfl ?_
        refine pm_e_top (y := iI 70) (by decide +kernel) ?_
        show pm_E _ _ _ 33 [(0, .int (iI x))] [.int (iI 70), .int (iI x)] _ _ _ _
        refine pm_c_ne (t := 40) pm_a154_33 rfl ⟨by omega, by omega⟩ ⟨by omega, by omega⟩ (fun h_4 => ?_) (fun h_4 => ?_)
        · skip
          show pm_E _ _ _ 40 [(0, .int (iI x))] [] _ _ _ _
          refine pm_e_sim pm_a154_40 rfl ?_
          show pm_E _ _ _ 41 [(0, .int (iI x))] [.int (iI x)] _ _ _ _
          refine pm_e_sim pm_a154_41 rfl ?_
          refine pm_e_top (y := iI 88) (by decide +kernel) ?_
          show pm_E _ _ _ 43 [(0, .int (iI x))] [.int (iI 88), .int (iI x)] _ _ _ _
          refine pm_c_ne (t := 51) pm_a154_43 rfl ⟨by omega, by omega⟩ ⟨by omega, by omega⟩ (fun h_5 => ?_) (fun h_5 => ?_)
          · skip
            show pm_E _ _ _ 51 [(0, .int (iI x))] [] _ _ _ _
            refine pm_e_sim pm_a154_51 rfl ?_
            refine pm_e_top (y := iI (-4)) (by decide +kernel) ?_
            show pm_E _ _ _ 53 [(0, .int (iI x))] [.int (iI (-4))] _ _ _ _
            refine pm_e_ret pm_a154_53 rfl rfl rfl rfl rfl rfl rfl rfl ?_
            exact k (-4) (by unfold lof; rw [if_neg (by omega)]; rw [if_neg (by omega)]; rw [if_neg (by omega)]; rw [if_neg (by omega)]; rw [if_neg (by omega)])
          · skip
            show pm_E _ _ _ 46 [(0, .int (iI x))] [] _ _ _ _
            refine pm_e_sim pm_a154_46 rfl ?_
            refine pm_e_top (y := iI 6) (by decide +kernel) ?_
            show pm_E _ _ _ 48 [(0, .int (iI x))] [.int (iI 6)] _ _ _ _
            refine pm_e_goto pm_a154_48 rfl ?_
            show pm_E _ _ _ 53 [(0, .int (iI x))] [.int (iI 6)] _ _ _ _
            refine pm_e_ret pm_a154_53 rfl rfl rfl rfl rfl rfl rfl rfl ?_
            exact k 6 (by unfold lof; rw [if_neg (by omega)]; rw [if_neg (by omega)]; rw [if_neg (by omega)]; rw [if_neg (by omega)]; rw [if_pos (by omega)])
        · skip
          show pm_E _ _ _ 36 [(0, .int (iI x))] [] _ _ _ _
          refine pm_e_sim pm_a154_36 rfl ?_
          refine pm_e_top (y := iI 5) (by decide +kernel) ?_
          show pm_E _ _ _ 37 [(0, .int (iI x))] [.int (iI 5)] _ _ _ _
          refine pm_e_goto pm_a154_37 rfl ?_
          show pm_E _ _ _ 53 [(0, .int (iI x))] [.int (iI 5)] _ _ _ _
          refine pm_e_ret pm_a154_53 rfl rfl rfl rfl rfl rfl rfl rfl ?_
          exact k 5 (by unfold lof; rw [if_neg (by omega)]; rw [if_neg (by omega)]; rw [if_neg (by omega)]; rw [if_pos (by omega)])
      · skip
        show pm_E _ _ _ 26 [(0, .int (iI x))] [] _ _ _ _
        refine pm_e_sim pm_a154_26 rfl ?_
        refine pm_e_top (y := iI 4) (by decide +kernel) ?_
        show pm_E _ _ _ 27 [(0, .int (iI x))] [.int (iI 4)] _ _ _ _
        refine pm_e_goto pm_a154_27 rfl ?_
        show pm_E _ _ _ 53 [(0, .int (iI x))] [.int (iI 4)] _ _ _ _
        refine pm_e_ret pm_a154_53 rfl rfl rfl rfl rfl rfl rfl rfl ?_
        exact k 4 (by unfold lof; rw [if_neg (by omega)]; rw [if_neg (by omega)]; rw [if_pos (by omega)])
    · skip
      show pm_E _ _ _ 16 [(0, .int (iI x))] [] _ _ _ _
      refine pm_e_sim pm_a154_16 rfl ?_
      refine pm_e_top (y := iI 3) (by decide +kernel) ?_
      show pm_E _ _ _ 17 [(0, .int (iI x))] [.int (iI 3)] _ _ _ _
      refine pm_e_goto pm_a154_17 rfl ?_
      show pm_E _ _ _ 53 [(0, .int (iI x))] [.int (iI 3)] _ _ _ _
      refine pm_e_ret pm_a154_53 rfl rfl rfl rfl rfl rfl rfl rfl ?_
      exact k 3 (by unfold lof; rw [if_neg (by omega)]; rw [if_pos (by omega)])
  · skip
    show pm_E _ _ _ 6 [(0, .int (iI x))] [] _ _ _ _
    refine pm_e_sim pm_a154_6 rfl ?_
    refine pm_e_top (y := iI 2) (by decide +kernel) ?_
    show pm_E _ _ _ 7 [(0, .int (iI x))] [.int (iI 2)] _ _ _ _
    refine pm_e_goto pm_a154_7 rfl ?_
    show pm_E _ _ _ 53 [(0, .int (iI x))] [.int (iI 2)] _ _ _ _
    refine pm_e_ret pm_a154_53 rfl rfl rfl rfl rfl rfl rfl rfl ?_
    exact k 2 (by unfold lof; rw [if_pos (by omega)])
set_option maxHeartbeats 4000000 in
set_option maxRecDepth 100000 in
theorem M_isSign {d : Nat} {A B : List va_E} {s : Nat → Int} {v : Int} {a : Nat → Int → Int} {nm : Nat → Int64} {Q : Option Value → List va_E → Nat → Nat → Prop} {x : Int} (hA : A.length = 18) (hx : in32 x) (hv : in64 v) (hs : in32 (s 11)) (k1 : s 11 = 4 → v = x → Q (some (.int (iI 1))) (mh A s (lI v) a nm B) 0 0) (k2 : s 11 ≠ 4 ∨ v ≠ x → Q (some (.int (iI 0))) (mh A s (lI v) a nm B) 0 0) : pm_E none d pm_mm159 0 [(0, .ref 18), (1, .int (iI x))] [] (mh A s (lI v) a nm B) 0 0 Q := by
  refine pm_e_sim pm_a159_0 rfl ?_
  show pm_E _ _ _ 1 [(0, .ref 18), (1, .int (iI x))] [.ref 18] _ _ _ _
  refine pm_i_get pm_a159_1 rfl (mh_get (j := 0) hA rfl) rfl ?_
  show pm_E _ _ _ 4 [(0, .ref 18), (1, .int (iI x))] [.int (iI (s 11))] _ _ _ _
  refine pm_e_sim pm_a159_4 rfl ?_
  refine pm_e_top (y := iI 4) (by decide +kernel) ?_
  show pm_E _ _ _ 5 [(0, .ref 18), (1, .int (iI x))] [.int (iI 4), .int (iI (s 11))] _ _ _ _
  refine pm_c_ne (t := 22) pm_a159_5 rfl ⟨by omega, by omega⟩ ⟨by omega, by omega⟩ (fun h_1 => ?_) (fun h_1 => ?_)
  · skip
    show pm_E _ _ _ 22 [(0, .ref 18), (1, .int (iI x))] [] _ _ _ _
    refine pm_e_sim pm_a159_22 rfl ?_
    refine pm_e_top (y := iI 0) (by decide +kernel) ?_
    show pm_E _ _ _ 23 [(0, .ref 18), (1, .int (iI x))] [.int (iI 0)] _ _ _ _
    refine pm_e_ret pm_a159_23 rfl rfl rfl rfl rfl rfl rfl rfl ?_
    exact k2 (by omega)
  · skip
    show pm_E _ _ _ 8 [(0, .ref 18), (1, .int (iI x))] [] _ _ _ _
    refine pm_e_sim pm_a159_8 rfl ?_
    show pm_E _ _ _ 9 [(0, .ref 18), (1, .int (iI x))] [.ref 18] _ _ _ _
    refine pm_i_get pm_a159_9 rfl (mh_get (j := 0) hA rfl) rfl ?_
    show pm_E _ _ _ 12 [(0, .ref 18), (1, .int (iI x))] [.long (lI v)] _ _ _ _
    refine pm_e_sim pm_a159_12 rfl ?_
    show pm_E _ _ _ 13 [(0, .ref 18), (1, .int (iI x))] [.int (iI x), .long (lI v)] _ _ _ _
    refine pm_e_sim pm_a159_13 rfl ?_
    refine pm_l_top (y := lI (x)) (iI_l ⟨by omega, by omega⟩) ?_
    show pm_E _ _ _ 14 [(0, .ref 18), (1, .int (iI x))] [.long (lI x), .long (lI v)] _ _ _ _
    refine pm_l_cmp pm_a159_14 ⟨by omega, by omega⟩ ⟨by omega, by omega⟩ (fun h_2 => ?_) (fun h_2 => ?_) (fun h_2 => ?_)
    · skip
      show pm_E _ _ _ 15 [(0, .ref 18), (1, .int (iI x))] [.int (iI (-1))] _ _ _ _
      refine pm_e_ift pm_a159_15 rfl (by decide +kernel) ?_
      show pm_E _ _ _ 22 [(0, .ref 18), (1, .int (iI x))] [] _ _ _ _
      refine pm_e_sim pm_a159_22 rfl ?_
      refine pm_e_top (y := iI 0) (by decide +kernel) ?_
      show pm_E _ _ _ 23 [(0, .ref 18), (1, .int (iI x))] [.int (iI 0)] _ _ _ _
      refine pm_e_ret pm_a159_23 rfl rfl rfl rfl rfl rfl rfl rfl ?_
      exact k2 (by omega)
    · skip
      show pm_E _ _ _ 15 [(0, .ref 18), (1, .int (iI x))] [.int (iI 0)] _ _ _ _
      refine pm_e_iff pm_a159_15 rfl (by decide +kernel) ?_
      show pm_E _ _ _ 18 [(0, .ref 18), (1, .int (iI x))] [] _ _ _ _
      refine pm_e_sim pm_a159_18 rfl ?_
      refine pm_e_top (y := iI 1) (by decide +kernel) ?_
      show pm_E _ _ _ 19 [(0, .ref 18), (1, .int (iI x))] [.int (iI 1)] _ _ _ _
      refine pm_e_goto pm_a159_19 rfl ?_
      show pm_E _ _ _ 23 [(0, .ref 18), (1, .int (iI x))] [.int (iI 1)] _ _ _ _
      refine pm_e_ret pm_a159_23 rfl rfl rfl rfl rfl rfl rfl rfl ?_
      exact k1 (by omega) (by omega)
    · skip
      show pm_E _ _ _ 15 [(0, .ref 18), (1, .int (iI x))] [.int (iI 1)] _ _ _ _
      refine pm_e_ift pm_a159_15 rfl (by decide +kernel) ?_
      show pm_E _ _ _ 22 [(0, .ref 18), (1, .int (iI x))] [] _ _ _ _
      refine pm_e_sim pm_a159_22 rfl ?_
      refine pm_e_top (y := iI 0) (by decide +kernel) ?_
      show pm_E _ _ _ 23 [(0, .ref 18), (1, .int (iI x))] [.int (iI 0)] _ _ _ _
      refine pm_e_ret pm_a159_23 rfl rfl rfl rfl rfl rfl rfl rfl ?_
      exact k2 (by omega)
set_option maxHeartbeats 4000000 in
set_option maxRecDepth 100000 in
theorem M_lay {d : Nat} {A B : List va_E} {s : Nat → Int} {vl : Int64} {a : Nat → Int → Int} {nm : Nat → Int64} {Q : Option Value → List va_E → Nat → Nat → Prop} {x : Int} (hA : A.length = 18) (h0 : 0 ≤ s 6) (h1 : s 6 < 12000) (k : Q none (mh A (updS s 6 (s 6 + 1)) vl (updA a 4 (updI (a 4) (s 6) x)) nm B) 0 0) : pm_E none d pm_mm157 0 [(0, .ref 18), (1, .int (iI x))] [] (mh A s vl a nm B) 0 0 Q := by
  refine pm_e_sim pm_a157_0 rfl ?_
  show pm_E _ _ _ 1 [(0, .ref 18), (1, .int (iI x))] [.ref 18] _ _ _ _
  refine pm_i_get pm_a157_1 rfl (mh_get (j := 0) hA rfl) rfl ?_
  show pm_E _ _ _ 4 [(0, .ref 18), (1, .int (iI x))] [.ref 22] _ _ _ _
  refine pm_e_sim pm_a157_4 rfl ?_
  show pm_E _ _ _ 5 [(0, .ref 18), (1, .int (iI x))] [.ref 18, .ref 22] _ _ _ _
  refine pm_i_get pm_a157_5 rfl (mh_get (j := 0) hA rfl) rfl ?_
  show pm_E _ _ _ 8 [(0, .ref 18), (1, .int (iI x))] [.int (iI (s 6)), .ref 22] _ _ _ _
  refine pm_e_sim pm_a157_8 rfl ?_
  show pm_E _ _ _ 9 [(0, .ref 18), (1, .int (iI x))] [.int (iI x), .int (iI (s 6)), .ref 22] _ _ _ _
  refine pm_i_ast pm_a157_9 (mh_get (j := 4) hA rfl) (by omega) (by omega) ⟨by omega, by omega⟩ (ma_4 hA _) ?_
  show pm_E _ _ _ 10 [(0, .ref 18), (1, .int (iI x))] [] _ _ _ _
  refine pm_e_sim pm_a157_10 rfl ?_
  show pm_E _ _ _ 11 [(0, .ref 18), (1, .int (iI x))] [.ref 18] _ _ _ _
  refine pm_e_sim pm_a157_11 rfl ?_
  show pm_E _ _ _ 12 [(0, .ref 18), (1, .int (iI x))] [.ref 18, .ref 18] _ _ _ _
  refine pm_i_get pm_a157_12 rfl (mh_get (j := 0) hA rfl) rfl ?_
  show pm_E _ _ _ 15 [(0, .ref 18), (1, .int (iI x))] [.int (iI (s 6)), .ref 18] _ _ _ _
  refine pm_e_sim pm_a157_15 rfl ?_
  refine pm_e_top (y := iI 1) (by decide +kernel) ?_
  show pm_E _ _ _ 16 [(0, .ref 18), (1, .int (iI x))] [.int (iI 1), .int (iI (s 6)), .ref 18] _ _ _ _
  refine pm_e_sim pm_a157_16 rfl ?_
  refine pm_e_top (y := iI (s 6 + 1)) (iI_add _ _) ?_
  show pm_E _ _ _ 17 [(0, .ref 18), (1, .int (iI x))] [.int (iI (s 6 + 1)), .ref 18] _ _ _ _
  refine pm_i_put pm_a157_17 rfl (mh_get (j := 0) hA rfl) rfl (Nat.le_of_ble_eq_true rfl) (Or.inl rfl) (mw_6 hA _) ?_
  show pm_E _ _ _ 20 [(0, .ref 18), (1, .int (iI x))] [] _ _ _ _
  refine pm_e_ret pm_a157_20 rfl rfl rfl rfl rfl rfl rfl rfl ?_
  exact k
set_option maxHeartbeats 4000000 in
set_option maxRecDepth 100000 in
theorem M_told {d : Nat} {A B : List va_E} {s : Nat → Int} {vl : Int64} {a : Nat → Int → Int} {nm : Nat → Int64} {Q : Option Value → List va_E → Nat → Nat → Prop} {x : Int} (hA : A.length = 18) (hx : in32 x) (k1 : x = 0 → Q (some (.int (iI (s 30)))) (mh A s vl a nm B) 0 0) (k2 : x = 1 → Q (some (.int (iI (s 31)))) (mh A s vl a nm B) 0 0) (k3 : x ≠ 0 → x ≠ 1 → Q (some (.int (iI (-1)))) (mh A s vl a nm B) 0 0) : pm_E none d pm_mm190 0 [(0, .ref 18), (1, .int (iI x))] [] (mh A s vl a nm B) 0 0 Q := by
  refine pm_e_sim pm_a190_0 rfl ?_
  show pm_E _ _ _ 1 [(0, .ref 18), (1, .int (iI x))] [.int (iI x)] _ _ _ _
  refine pm_i_ne (t := 11) pm_a190_1 rfl ⟨by omega, by omega⟩ (fun h_1 => ?_) (fun h_1 => ?_)
  · skip
    show pm_E _ _ _ 11 [(0, .ref 18), (1, .int (iI x))] [] _ _ _ _
    refine pm_e_sim pm_a190_11 rfl ?_
    show pm_E _ _ _ 12 [(0, .ref 18), (1, .int (iI x))] [.int (iI x)] _ _ _ _
    refine pm_e_sim pm_a190_12 rfl ?_
    refine pm_e_top (y := iI 1) (by decide +kernel) ?_
    show pm_E _ _ _ 13 [(0, .ref 18), (1, .int (iI x))] [.int (iI 1), .int (iI x)] _ _ _ _
    refine pm_c_ne (t := 23) pm_a190_13 rfl ⟨by omega, by omega⟩ ⟨by omega, by omega⟩ (fun h_2 => ?_) (fun h_2 => ?_)
    · skip
      show pm_E _ _ _ 23 [(0, .ref 18), (1, .int (iI x))] [] _ _ _ _
      refine pm_e_sim pm_a190_23 rfl ?_
      refine pm_e_top (y := iI (-1)) (by decide +kernel) ?_
      show pm_E _ _ _ 24 [(0, .ref 18), (1, .int (iI x))] [.int (iI (-1))] _ _ _ _
      refine pm_e_ret pm_a190_24 rfl rfl rfl rfl rfl rfl rfl rfl ?_
      exact k3 (by omega) (by omega)
    · skip
      show pm_E _ _ _ 16 [(0, .ref 18), (1, .int (iI x))] [] _ _ _ _
      refine pm_e_sim pm_a190_16 rfl ?_
      show pm_E _ _ _ 17 [(0, .ref 18), (1, .int (iI x))] [.ref 18] _ _ _ _
      refine pm_i_get pm_a190_17 rfl (mh_get (j := 0) hA rfl) rfl ?_
      show pm_E _ _ _ 20 [(0, .ref 18), (1, .int (iI x))] [.int (iI (s 31))] _ _ _ _
      refine pm_e_goto pm_a190_20 rfl ?_
      show pm_E _ _ _ 24 [(0, .ref 18), (1, .int (iI x))] [.int (iI (s 31))] _ _ _ _
      refine pm_e_ret pm_a190_24 rfl rfl rfl rfl rfl rfl rfl rfl ?_
      exact k2 (by omega)
  · skip
    show pm_E _ _ _ 4 [(0, .ref 18), (1, .int (iI x))] [] _ _ _ _
    refine pm_e_sim pm_a190_4 rfl ?_
    show pm_E _ _ _ 5 [(0, .ref 18), (1, .int (iI x))] [.ref 18] _ _ _ _
    refine pm_i_get pm_a190_5 rfl (mh_get (j := 0) hA rfl) rfl ?_
    show pm_E _ _ _ 8 [(0, .ref 18), (1, .int (iI x))] [.int (iI (s 30))] _ _ _ _
    refine pm_e_goto pm_a190_8 rfl ?_
    show pm_E _ _ _ 24 [(0, .ref 18), (1, .int (iI x))] [.int (iI (s 30))] _ _ _ _
    refine pm_e_ret pm_a190_24 rfl rfl rfl rfl rfl rfl rfl rfl ?_
    exact k1 (by omega)
set_option maxHeartbeats 4000000 in
set_option maxRecDepth 100000 in
theorem M_add {d : Nat} {A B : List va_E} {s : Nat → Int} {vl : Int64} {a : Nat → Int → Int} {nm : Nat → Int64} {Q : Option Value → List va_E → Nat → Nat → Prop} {x : Int} (hA : A.length = 18) (h0 : 0 ≤ s 28) (h1 : s 28 ≤ 1000000000) (k1 : s 28 < 12000 → Q none (mh A (updS s 28 (s 28 + 1)) vl (updA a 15 (updI (a 15) (s 28) x)) nm B) 0 0) (k2 : 12000 ≤ s 28 → Q none (mh A (updS s 28 (s 28 + 1)) vl a nm B) 0 0) : pm_E none d pm_mm185 0 [(0, .ref 18), (1, .int (iI x))] [] (mh A s vl a nm B) 0 0 Q := by
  refine pm_e_sim pm_a185_0 rfl ?_
  show pm_E _ _ _ 1 [(0, .ref 18), (1, .int (iI x))] [.ref 18] _ _ _ _
  refine pm_i_get pm_a185_1 rfl (mh_get (j := 0) hA rfl) rfl ?_
  show pm_E _ _ _ 4 [(0, .ref 18), (1, .int (iI x))] [.int (iI (s 28))] _ _ _ _
  refine pm_e_sim pm_a185_4 rfl ?_
  refine pm_e_top (y := iI 12000) (by decide +kernel) ?_
  show pm_E _ _ _ 7 [(0, .ref 18), (1, .int (iI x))] [.int (iI 12000), .int (iI (s 28))] _ _ _ _
  refine pm_c_ge (t := 20) pm_a185_7 rfl ⟨by omega, by omega⟩ ⟨by omega, by omega⟩ (fun h_1 => ?_) (fun h_1 => ?_)
  · skip
    show pm_E _ _ _ 20 [(0, .ref 18), (1, .int (iI x))] [] _ _ _ _
    refine pm_e_sim pm_a185_20 rfl ?_
    show pm_E _ _ _ 21 [(0, .ref 18), (1, .int (iI x))] [.ref 18] _ _ _ _
    refine pm_e_sim pm_a185_21 rfl ?_
    show pm_E _ _ _ 22 [(0, .ref 18), (1, .int (iI x))] [.ref 18, .ref 18] _ _ _ _
    refine pm_i_get pm_a185_22 rfl (mh_get (j := 0) hA rfl) rfl ?_
    show pm_E _ _ _ 25 [(0, .ref 18), (1, .int (iI x))] [.int (iI (s 28)), .ref 18] _ _ _ _
    refine pm_e_sim pm_a185_25 rfl ?_
    refine pm_e_top (y := iI 1) (by decide +kernel) ?_
    show pm_E _ _ _ 26 [(0, .ref 18), (1, .int (iI x))] [.int (iI 1), .int (iI (s 28)), .ref 18] _ _ _ _
    refine pm_e_sim pm_a185_26 rfl ?_
    refine pm_e_top (y := iI (s 28 + 1)) (iI_add _ _) ?_
    show pm_E _ _ _ 27 [(0, .ref 18), (1, .int (iI x))] [.int (iI (s 28 + 1)), .ref 18] _ _ _ _
    refine pm_i_put pm_a185_27 rfl (mh_get (j := 0) hA rfl) rfl (Nat.le_of_ble_eq_true rfl) (Or.inl rfl) (mw_28 hA _) ?_
    show pm_E _ _ _ 30 [(0, .ref 18), (1, .int (iI x))] [] _ _ _ _
    refine pm_e_ret pm_a185_30 rfl rfl rfl rfl rfl rfl rfl rfl ?_
    exact k2 (by omega)
  · skip
    show pm_E _ _ _ 10 [(0, .ref 18), (1, .int (iI x))] [] _ _ _ _
    refine pm_e_sim pm_a185_10 rfl ?_
    show pm_E _ _ _ 11 [(0, .ref 18), (1, .int (iI x))] [.ref 18] _ _ _ _
    refine pm_i_get pm_a185_11 rfl (mh_get (j := 0) hA rfl) rfl ?_
    show pm_E _ _ _ 14 [(0, .ref 18), (1, .int (iI x))] [.ref 33] _ _ _ _
    refine pm_e_sim pm_a185_14 rfl ?_
    show pm_E _ _ _ 15 [(0, .ref 18), (1, .int (iI x))] [.ref 18, .ref 33] _ _ _ _
    refine pm_i_get pm_a185_15 rfl (mh_get (j := 0) hA rfl) rfl ?_
    show pm_E _ _ _ 18 [(0, .ref 18), (1, .int (iI x))] [.int (iI (s 28)), .ref 33] _ _ _ _
    refine pm_e_sim pm_a185_18 rfl ?_
    show pm_E _ _ _ 19 [(0, .ref 18), (1, .int (iI x))] [.int (iI x), .int (iI (s 28)), .ref 33] _ _ _ _
    refine pm_i_ast pm_a185_19 (mh_get (j := 15) hA rfl) (by omega) (by omega) ⟨by omega, by omega⟩ (ma_15 hA _) ?_
    show pm_E _ _ _ 20 [(0, .ref 18), (1, .int (iI x))] [] _ _ _ _
    refine pm_e_sim pm_a185_20 rfl ?_
    show pm_E _ _ _ 21 [(0, .ref 18), (1, .int (iI x))] [.ref 18] _ _ _ _
    refine pm_e_sim pm_a185_21 rfl ?_
    show pm_E _ _ _ 22 [(0, .ref 18), (1, .int (iI x))] [.ref 18, .ref 18] _ _ _ _
    refine pm_i_get pm_a185_22 rfl (mh_get (j := 0) hA rfl) rfl ?_
    show pm_E _ _ _ 25 [(0, .ref 18), (1, .int (iI x))] [.int (iI (s 28)), .ref 18] _ _ _ _
    refine pm_e_sim pm_a185_25 rfl ?_
    refine pm_e_top (y := iI 1) (by decide +kernel) ?_
    show pm_E _ _ _ 26 [(0, .ref 18), (1, .int (iI x))] [.int (iI 1), .int (iI (s 28)), .ref 18] _ _ _ _
    refine pm_e_sim pm_a185_26 rfl ?_
    refine pm_e_top (y := iI (s 28 + 1)) (iI_add _ _) ?_
    show pm_E _ _ _ 27 [(0, .ref 18), (1, .int (iI x))] [.int (iI (s 28 + 1)), .ref 18] _ _ _ _
    refine pm_i_put pm_a185_27 rfl (mh_get (j := 0) hA rfl) rfl (Nat.le_of_ble_eq_true rfl) (Or.inl rfl) (mw_28 hA _) ?_
    show pm_E _ _ _ 30 [(0, .ref 18), (1, .int (iI x))] [] _ _ _ _
    refine pm_e_ret pm_a185_30 rfl rfl rfl rfl rfl rfl rfl rfl ?_
    exact k1 (by omega)
