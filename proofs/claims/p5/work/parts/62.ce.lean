/-! THE CLASS: Abstracter: takeLambdaOut -/
/-- what is held -/
def hdL (s : Nat → Int) (a : Nat → Int → Int) (H : List Int) : Prop := H.length ≤ 1500 ∧ s 19 = 1500 - (H.length : Int) ∧ rg (a 7) H.length (s 19) = H
theorem hdL_cons {s : Nat → Int} {a : Nat → Int → Int} {H : List Int} (v : Int) (h : hdL s a H) (h0 : 0 < s 19) : hdL (updS s 19 (s 19 - 1)) (updA a 7 (updI (a 7) (s 19 - 1) v)) (v :: H) := by
  obtain ⟨h1, h2, h3⟩ := h
  refine ⟨by rw [List.length_cons]; omega, by show s 19 - 1 = _; rw [List.length_cons]; omega, ?_⟩
  show updI (a 7) (s 19 - 1) v (s 19 - 1) :: rg (updI (a 7) (s 19 - 1) v) H.length (s 19 - 1 + 1) = v :: H
  rw [updI_s, show s 19 - 1 + 1 = s 19 by omega, rg_eq (g := a 7) (fun j z y => by rw [updI_n _ _ (by omega)]), h3]
/-- what a body without lambdas becomes -/
def abL (B r : List Int) : Prop := ∃ (g : Int → Int) (f : Nat), rg g B.length 0 = B ∧ ab g f 0 B.length r
def frA (s : Nat → Int) (a : Nat → Int → Int) (c : Nat → cdt) (s' : Nat → Int) (a' : Nat → Int → Int) (c' : Nat → cdt) : Prop := (∀ i, i ≠ 19 → s' i = s i) ∧ (∀ i, i ≠ 1 → i ≠ 2 → i ≠ 7 → i ≠ 8 → a' i = a i) ∧ (∀ q, in32 (a' 1 q)) ∧ (∀ q, in32 (a' 7 q)) ∧ (∀ i, i ≠ 2 → i ≠ 3 → c' i = c i) ∧ okx (rm 2) (c' 2) ∧ okx (rm 3) (c' 3)
set_option maxHeartbeats 4000000 in
set_option maxRecDepth 100000 in
theorem C_tlo_l {d n : Nat} {kd pl : Nat → Nat} {c : Nat → cdt} {M : List va_E} {Q : Option Value → List va_E → Nat → Nat → Prop} {R : List Int} (hW : wf n kd pl) (h200 : al n kd pl 200) (hok : okx (rm 3) (c 3)) : ∀ (f : Nat) (i : Int) (s : Nat → Int) (a : Nat → Int → Int), -1 ≤ i → i < (c 3).1 → hdL s a (rg (c 3).2.2 ((c 3).1 - (i + 1)).toNat (i + 1) ++ R) → (∀ q, in32 (a 7 q)) → (∀ s' a', (∀ j, j ≠ 19 → s' j = s j) → (∀ j, j ≠ 7 → a' j = a j) → (∀ q, in32 (a' 7 q)) → hdL s' a' (rg (c 3).2.2 (c 3).1.toNat 0 ++ R) → Q (some (.int (iI 1))) (ch n kd pl s' a' c M) 0 0) → (∀ s' a', (∀ j, j ≠ 19 → s' j = s j) → (∀ j, j ≠ 7 → a' j = a j) → (∀ q, in32 (a' 7 q)) → 1500 < (c 3).1 + R.length → Q (some (.int (iI 0))) (ch n kd pl s' a' c M) 0 0) → i + 1 < (f : Int) → pm_E none (d + 1) pm_mm96 69 [(0, .ref (pl 200)), (1, .int (iI 1)), (2, .int (iI i))] [] (ch n kd pl s a c M) 0 0 Q := by
  intro f
  induction f with
  | zero =>
    intro i s a hi0 hi1 hH hin7 k1 k0 hf
    exfalso; omega
  | succ f ih =>
    intro i s a hi0 hi1 hH hin7 k1 k0 hf
    have rb := rm_b 3
    obtain ⟨o1, o2, o3, o4⟩ := id hok
    obtain ⟨y1, y2, y3⟩ := id hH
    refine pm_e_sim pm_a96_69 rfl ?_
    show pm_E _ _ _ 70 [(0, .ref (pl 200)), (1, .int (iI 1)), (2, .int (iI i))] [.int (iI i)] _ _ _ _
    refine pm_i_lt (t := 96) pm_a96_70 rfl ⟨by omega, by omega⟩ (fun h_1 => ?_) (fun h_1 => ?_)
    · skip
      show pm_E _ _ _ 96 [(0, .ref (pl 200)), (1, .int (iI 1)), (2, .int (iI i))] [] _ _ _ _
      refine pm_e_sim pm_a96_96 rfl ?_
      show pm_E _ _ _ 97 [(0, .ref (pl 200)), (1, .int (iI 1)), (2, .int (iI i))] [.int (iI 1)] _ _ _ _
      refine pm_e_ret pm_a96_97 rfl rfl rfl rfl rfl rfl rfl rfl ?_
      have e9 : i = -1 := by omega
      subst e9
      refine k1 s a (fun _ _ => rfl) (fun _ _ => rfl) hin7 ?_
      rw [show (-1 : Int) + 1 = 0 by omega, show ((c 3).1 - 0) = (c 3).1 by omega] at hH
      exact hH
    · skip
      show pm_E _ _ _ 73 [(0, .ref (pl 200)), (1, .int (iI 1)), (2, .int (iI i))] [] _ _ _ _
      refine pm_e_sim pm_a96_73 rfl ?_
      show pm_E _ _ _ 74 [(0, .ref (pl 200)), (1, .int (iI 1)), (2, .int (iI i))] [.int (iI 1)] _ _ _ _
      refine pm_e_iff pm_a96_74 rfl (by decide +kernel) ?_
      show pm_E _ _ _ 77 [(0, .ref (pl 200)), (1, .int (iI 1)), (2, .int (iI i))] [] _ _ _ _
      refine pm_e_sim pm_a96_77 rfl ?_
      show pm_E _ _ _ 78 [(0, .ref (pl 200)), (1, .int (iI 1)), (2, .int (iI i))] [.ref (pl 200)] _ _ _ _
      refine pm_e_sim pm_a96_78 rfl ?_
      show pm_E _ _ _ 79 [(0, .ref (pl 200)), (1, .int (iI 1)), (2, .int (iI i))] [.ref (pl 200), .ref (pl 200)] _ _ _ _
      refine pm_i_get pm_a96_79 rfl (cg_200 hW h200) rfl ?_
      show pm_E _ _ _ 82 [(0, .ref (pl 200)), (1, .int (iI 1)), (2, .int (iI i))] [.ref (pl (60 + 2 * 3)), .ref (pl 200)] _ _ _ _
      refine pm_e_sim pm_a96_82 rfl ?_
      show pm_E _ _ _ 83 [(0, .ref (pl 200)), (1, .int (iI 1)), (2, .int (iI i))] [.int (iI i), .ref (pl (60 + 2 * 3)), .ref (pl 200)] _ _ _ _
      refine pm_i_callv (k := (pl (60 + 2 * 3))) (T2 := pm_mm47) pm_a96_83 rfl rfl rfl (cg_o (cj3 hW h200)) ⟨Nat.le_of_ble_eq_true rfl, Nat.le_of_ble_eq_true rfl, rfl, by decide +kernel⟩ ?_
      show pm_E none _ _ 0 [(0, .ref (pl (60 + 2 * 3))), (1, .int (iI i))] [] _ _ _ _
      refine C_at hW (cj3 hW h200) rfl hok.1 hok.2.1 ⟨by omega, by omega⟩ ?_
      rw [atI_y (by omega) (by omega)]
      show pm_E _ _ _ 86 [(0, .ref (pl 200)), (1, .int (iI 1)), (2, .int (iI i))] [.int (iI ((c 3).2.2 i)), .ref (pl 200)] _ _ _ _
      refine pm_i_callv (k := (pl 200)) (T2 := pm_mm103) pm_a96_86 rfl rfl rfl (cg_200 hW h200) ⟨Nat.le_of_ble_eq_true rfl, Nat.le_of_ble_eq_true rfl, rfl, by decide +kernel⟩ ?_
      show pm_E none _ _ 0 [(0, .ref (pl 200)), (1, .int (iI ((c 3).2.2 i)))] [] _ _ _ _
      refine C_hold hW h200 (by omega) (by omega) (fun hs => ?_) (fun hs => ?_)
      · skip
        show pm_E _ _ _ 89 [(0, .ref (pl 200)), (1, .int (iI 1)), (2, .int (iI i))] [.int (iI 1)] _ _ _ _
        refine pm_e_sim pm_a96_89 rfl ?_
        show pm_E _ _ _ 90 [(0, .ref (pl 200)), (1, .int (iI 1)), (2, .int (iI i))] [] _ _ _ _
        refine pm_e_inc (y := iI (i + (-1))) pm_a96_90 rfl (iI_add _ _) (by decide +kernel) rfl ?_
        show pm_E _ _ _ 93 [(0, .ref (pl 200)), (1, .int (iI 1)), (2, .int (iI (i + (-1))))] [] _ _ _ _
        refine pm_e_goto pm_a96_93 rfl ?_
        show pm_E _ _ _ 69 [(0, .ref (pl 200)), (1, .int (iI 1)), (2, .int (iI (i + (-1))))] [] _ _ _ _
        refine ih _ _ _ (by omega) (by omega) ?_ (fun q => updI_in hin7 (hok.2.2.2 i) q) (fun s2 a2 z1 z2 => k1 s2 a2 (fun j hj => by rw [z1 j hj]; unfold updS; rw [if_neg hj]) (fun j hj => by rw [z2 j hj]; unfold updA; rw [if_neg hj])) (fun s2 a2 z1 z2 => k0 s2 a2 (fun j hj => by rw [z1 j hj]; unfold updS; rw [if_neg hj]) (fun j hj => by rw [z2 j hj]; unfold updA; rw [if_neg hj])) (by omega)
        have := hdL_cons ((c 3).2.2 i) hH hs
        rw [show i + (-1) + 1 = i by omega, rg_cons (by omega)]
        exact this
      · skip
        show pm_E _ _ _ 89 [(0, .ref (pl 200)), (1, .int (iI 1)), (2, .int (iI i))] [.int (iI 0)] _ _ _ _
        refine pm_e_sim pm_a96_89 rfl ?_
        show pm_E _ _ _ 90 [(0, .ref (pl 200)), (1, .int (iI 0)), (2, .int (iI i))] [] _ _ _ _
        refine pm_e_inc (y := iI (i + (-1))) pm_a96_90 rfl (iI_add _ _) (by decide +kernel) rfl ?_
        show pm_E _ _ _ 93 [(0, .ref (pl 200)), (1, .int (iI 0)), (2, .int (iI (i + (-1))))] [] _ _ _ _
        refine pm_e_goto pm_a96_93 rfl ?_
        show pm_E _ _ _ 69 [(0, .ref (pl 200)), (1, .int (iI 0)), (2, .int (iI (i + (-1))))] [] _ _ _ _
        refine pm_e_sim pm_a96_69 rfl ?_
        show pm_E _ _ _ 70 [(0, .ref (pl 200)), (1, .int (iI 0)), (2, .int (iI (i + (-1))))] [.int (iI (i + (-1)))] _ _ _ _
        refine pm_i_lt (t := 96) pm_a96_70 rfl ⟨by omega, by omega⟩ (fun h_71 => ?_) (fun h_71 => ?_)
        · skip
          show pm_E _ _ _ 96 [(0, .ref (pl 200)), (1, .int (iI 0)), (2, .int (iI (i + (-1))))] [] _ _ _ _
          refine pm_e_sim pm_a96_96 rfl ?_
          show pm_E _ _ _ 97 [(0, .ref (pl 200)), (1, .int (iI 0)), (2, .int (iI (i + (-1))))] [.int (iI 0)] _ _ _ _
          refine pm_e_ret pm_a96_97 rfl rfl rfl rfl rfl rfl rfl rfl ?_
          refine k0 s a (fun _ _ => rfl) (fun _ _ => rfl) hin7 ?_
          have := hH.2.1
          rw [List.length_append, rg_len] at this
          omega
        · skip
          show pm_E _ _ _ 73 [(0, .ref (pl 200)), (1, .int (iI 0)), (2, .int (iI (i + (-1))))] [] _ _ _ _
          refine pm_e_sim pm_a96_73 rfl ?_
          show pm_E _ _ _ 74 [(0, .ref (pl 200)), (1, .int (iI 0)), (2, .int (iI (i + (-1))))] [.int (iI 0)] _ _ _ _
          refine pm_e_ift pm_a96_74 rfl (by decide +kernel) ?_
          show pm_E _ _ _ 96 [(0, .ref (pl 200)), (1, .int (iI 0)), (2, .int (iI (i + (-1))))] [] _ _ _ _
          refine pm_e_sim pm_a96_96 rfl ?_
          show pm_E _ _ _ 97 [(0, .ref (pl 200)), (1, .int (iI 0)), (2, .int (iI (i + (-1))))] [.int (iI 0)] _ _ _ _
          refine pm_e_ret pm_a96_97 rfl rfl rfl rfl rfl rfl rfl rfl ?_
          refine k0 s a (fun _ _ => rfl) (fun _ _ => rfl) hin7 ?_
          have := hH.2.1
          rw [List.length_append, rg_len] at this
          omega
set_option maxHeartbeats 4000000 in
set_option maxRecDepth 100000 in
theorem C_takeLambdaOut {d n : Nat} {kd pl : Nat → Nat} {s : Nat → Int} {a : Nat → Int → Int} {c : Nat → cdt} {M : List va_E} {Q : Option Value → List va_E → Nat → Nat → Prop} {B R : List Int} {F : Nat} {kk : Int} (hW : wf n kd pl) (h200 : al n kd pl 200) (hin1 : ∀ q, in32 (a 1 q)) (hin7 : ∀ q, in32 (a 7 q)) (ho2 : okx (rm 2) (c 2)) (ho3 : okx (rm 3) (c 3)) (hH : hdL s a (B ++ R)) (tB : tL F kk B) (hk : 0 ≤ kk ∧ kk ≤ 1000) (nB : ∀ v ∈ B, v ≠ 1) (k1 : ∀ s' a' c' r, frA s a c s' a' c' → hdL s' a' (r ++ R) → abL B r → r.length ≤ 500 → Q (some (.int (iI 1))) (ch n kd pl s' a' c' M) 0 0) (k0 : ∀ s' a' c' r, frA s a c s' a' c' → abL B r → (500 < r.length ∨ (r.length ≤ 500 ∧ 1500 < r.length + R.length)) → Q (some (.int (iI 0))) (ch n kd pl s' a' c' M) 0 0) : pm_E none (d + 3) pm_mm96 0 [(0, .ref (pl 200))] [] (ch n kd pl s a c M) 0 0 Q := by
  obtain ⟨hH1, hH2, hH3⟩ := hH
  rw [List.length_append] at hH1 hH2 hH3
  rw [rg_app] at hH3
  obtain ⟨hB, hR⟩ := List.append_inj hH3 rg_len
  have ht := tL_tm tB hB
  have htl := tm_lt ht
  have eB : rg (a 7) (s 19 + (B.length : Int) - s 19).toNat (s 19) = B := by rw [show (s 19 + (B.length : Int) - s 19).toNat = B.length by omega]; exact hB
  have hn : ∀ j, s 19 ≤ j → j < s 19 + (B.length : Int) → a 7 j ≠ 1 := fun j a1 b1 => by
    have := rg_in (g := a 7) (n := B.length) (p := s 19) (j := j) a1 (by omega)
    rw [hB] at this
    exact nB _ this
  obtain ⟨gB, hgB⟩ : ∃ g : Int → Int, rg g B.length 0 = B := ⟨fun i => a 7 (i + s 19), by have := rg_congr (g := fun i => a 7 (i + s 19)) (g' := a 7) (n := B.length) (p := 0) (o := s 19) (fun j _ _ => rfl); rw [show (0 : Int) + s 19 = s 19 by omega] at this; rw [← this]; exact hB⟩
  have htB := tL_tm0 tB hgB
  have hnB : ∀ j, 0 ≤ j → j < (B.length : Int) → gB j ≠ 1 := fun j a1 b1 => by
    have := rg_in (g := gB) (n := B.length) (p := 0) (j := j) a1 (by omega)
    rw [hgB] at this
    exact nB _ this
  refine pm_e_sim pm_a96_0 rfl ?_
  show pm_E _ _ _ 1 [(0, .ref (pl 200))] [.ref (pl 200)] _ _ _ _
  refine pm_i_callv (k := (pl 200)) (T2 := pm_mm97) pm_a96_1 rfl rfl rfl (cg_200 hW h200) ⟨Nat.le_of_ble_eq_true rfl, Nat.le_of_ble_eq_true rfl, rfl, by decide +kernel⟩ ?_
  show pm_E none _ _ 0 [(0, .ref (pl 200))] [] _ _ _ _
  refine C_unholdBody hW h200 hin7 ho2 ht hn (by omega) (by omega) (fun x i hx i0 i1 hi => ?_)
  rw [eB] at hx
  obtain ⟨p1, p2, p3, p4⟩ := id hx.1
  show pm_E _ _ _ 4 [(0, .ref (pl 200))] [] _ _ _ _
  refine pm_e_sim pm_a96_4 rfl ?_
  show pm_E _ _ _ 5 [(0, .ref (pl 200))] [.ref (pl 200)] _ _ _ _
  refine pm_i_get pm_a96_5 rfl (cg_200 hW h200) rfl ?_
  show pm_E _ _ _ 8 [(0, .ref (pl 200))] [.ref (pl (60 + 2 * 2))] _ _ _ _
  refine pm_i_get pm_a96_8 rfl (cg_o (cj2 hW h200)) rfl ?_
  refine pm_e_top (y := iI ((x).2.1)) (congrArg (fun z : cdt => iI z.2.1) updC_at) ?_
  show pm_E _ _ _ 11 [(0, .ref (pl 200))] [.int (iI ((x).2.1))] _ _ _ _
  refine pm_i_eq (t := 16) pm_a96_11 rfl ⟨by omega, by omega⟩ (fun h_1 => ?_) (fun h_1 => ?_)
  · skip
    show pm_E _ _ _ 16 [(0, .ref (pl 200))] [] _ _ _ _
    refine pm_e_sim pm_a96_16 rfl ?_
    show pm_E _ _ _ 17 [(0, .ref (pl 200))] [.ref (pl 200)] _ _ _ _
    refine pm_i_get pm_a96_17 rfl (cg_200 hW h200) rfl ?_
    show pm_E _ _ _ 20 [(0, .ref (pl 200))] [.ref (pl 6)] _ _ _ _
    refine pm_e_sim pm_a96_20 rfl ?_
    show pm_E _ _ _ 21 [(0, .ref (pl 200))] [.ref (pl 200), .ref (pl 6)] _ _ _ _
    refine pm_i_get pm_a96_21 rfl (cg_200 hW h200) rfl ?_
    show pm_E _ _ _ 24 [(0, .ref (pl 200))] [.ref (pl (60 + 2 * 2)), .ref (pl 6)] _ _ _ _
    refine pm_e_sim pm_a96_24 rfl ?_
    refine pm_e_top (y := iI 0) (by decide +kernel) ?_
    show pm_E _ _ _ 25 [(0, .ref (pl 200))] [.int (iI 0), .ref (pl (60 + 2 * 2)), .ref (pl 6)] _ _ _ _
    refine pm_e_sim pm_a96_25 rfl ?_
    show pm_E _ _ _ 26 [(0, .ref (pl 200))] [.ref (pl 200), .int (iI 0), .ref (pl (60 + 2 * 2)), .ref (pl 6)] _ _ _ _
    refine pm_i_get pm_a96_26 rfl (cg_200 hW h200) rfl ?_
    show pm_E _ _ _ 29 [(0, .ref (pl 200))] [.ref (pl (60 + 2 * 2)), .int (iI 0), .ref (pl (60 + 2 * 2)), .ref (pl 6)] _ _ _ _
    refine pm_i_get pm_a96_29 rfl (cg_o (cj2 hW h200)) rfl ?_
    refine pm_e_top (y := iI ((x).1)) (congrArg (fun z : cdt => iI z.1) updC_at) ?_
    show pm_E _ _ _ 32 [(0, .ref (pl 200))] [.int (iI ((x).1)), .int (iI 0), .ref (pl (60 + 2 * 2)), .ref (pl 6)] _ _ _ _
    refine pm_i_callv (k := (pl 6)) (T2 := pm_mm70) pm_a96_32 rfl rfl rfl (cg_6 hW) ⟨Nat.le_of_ble_eq_true rfl, Nat.le_of_ble_eq_true rfl, rfl, by decide +kernel⟩ ?_
    show pm_E none _ _ 0 [(0, .ref (pl 6)), (1, .ref (pl (60 + 2 * 2))), (2, .int (iI 0)), (3, .int (iI ((x).1)))] [] _ _ _ _
    have hx0 : x.2.1 = 0 := by omega
    have ei := hi hx0
    subst ei
    obtain ⟨z0, z3, z4⟩ : B.length ≤ rm 2 ∧ x.1 = B.length ∧ rg x.2.2 B.length 0 = B := by rcases hx.2 with ⟨z, _, z1, z2⟩ | ⟨_, z⟩; exact ⟨z, z1, z2⟩; omega
    have htx : tm x.2.2 B.length kk 0 x.1 := by rw [z3]; exact tm_small (tL_tm0 tB z4) _ (by omega)
    have hnx : ∀ j, 0 ≤ j → j < x.1 → x.2.2 j ≠ 1 := fun j a b => by
      have := rg_in (g := x.2.2) (n := B.length) (p := 0) (j := j) a (by omega)
      rw [z4] at this
      exact nB _ this
    refine C_measure hW (cj2 hW h200) updC_at hx.1 hin1 (by omega) (by omega) htx (fun E D h1 h2 h3 => ?_)
    show pm_E _ _ _ 35 [(0, .ref (pl 200))] [] _ _ _ _
    refine pm_e_sim pm_a96_35 rfl ?_
    show pm_E _ _ _ 36 [(0, .ref (pl 200))] [.ref (pl 200)] _ _ _ _
    refine pm_i_callv (k := (pl 200)) (T2 := pm_mm99) pm_a96_36 rfl rfl rfl (cg_200 hW h200) ⟨Nat.le_of_ble_eq_true rfl, Nat.le_of_ble_eq_true rfl, rfl, by decide +kernel⟩ ?_
    show pm_E none _ _ 0 [(0, .ref (pl 200))] [] _ _ _ _
    refine C_countMet hW h200 (by rw [updC_at]; exact hx.1) (fun G hG => ?_)
    rw [updC_at] at hG
    show pm_E _ _ _ 39 [(0, .ref (pl 200))] [] _ _ _ _
    refine pm_e_sim pm_a96_39 rfl ?_
    show pm_E _ _ _ 40 [(0, .ref (pl 200))] [.ref (pl 200)] _ _ _ _
    refine pm_i_callv (k := (pl 200)) (T2 := pm_mm100) pm_a96_40 rfl rfl rfl (cg_200 hW h200) ⟨Nat.le_of_ble_eq_true rfl, Nat.le_of_ble_eq_true rfl, rfl, by decide +kernel⟩ ?_
    show pm_E none _ _ 0 [(0, .ref (pl 200))] [] _ _ _ _
    refine C_putAbstracted (f := B.length) (kk := kk) hW h200 (by rw [updC_at]; exact hx.1) (by rw [updC_n (by decide)]; exact ho3) (by rw [updC_at]; exact fun q a b => by have := tm_in hk.1 htx q a b; omega) (by rw [updC_at]; exact hG) (by rw [updC_at]; exact h1) (by rw [updC_at]; exact htx) (by rw [updC_at]; exact hnx) (fun y r hab hy => ?_)
    rw [updC_at, z3] at hab
    obtain ⟨q1, q2, q3, q4⟩ := id hy.1
    have rb3 := rm_b 3
    have hL : abL B r := ⟨x.2.2, _, z4, hab⟩
    show pm_E _ _ _ 43 [(0, .ref (pl 200))] [] _ _ _ _
    refine pm_e_sim pm_a96_43 rfl ?_
    show pm_E _ _ _ 44 [(0, .ref (pl 200))] [.ref (pl 200)] _ _ _ _
    refine pm_i_get pm_a96_44 rfl (cg_200 hW h200) rfl ?_
    show pm_E _ _ _ 47 [(0, .ref (pl 200))] [.ref (pl (60 + 2 * 3))] _ _ _ _
    refine pm_i_get pm_a96_47 rfl (cg_o (cj3 hW h200)) rfl ?_
    refine pm_e_top (y := iI ((y).2.1)) (congrArg (fun z : cdt => iI z.2.1) updC_at) ?_
    show pm_E _ _ _ 50 [(0, .ref (pl 200))] [.int (iI ((y).2.1))] _ _ _ _
    refine pm_i_ne (t := 57) pm_a96_50 rfl ⟨by omega, by omega⟩ (fun h_2 => ?_) (fun h_2 => ?_)
    · skip
      show pm_E _ _ _ 57 [(0, .ref (pl 200))] [] _ _ _ _
      refine pm_e_sim pm_a96_57 rfl ?_
      refine pm_e_top (y := iI 0) (by decide +kernel) ?_
      show pm_E _ _ _ 58 [(0, .ref (pl 200))] [.int (iI 0)] _ _ _ _
      refine pm_e_sim pm_a96_58 rfl ?_
      show pm_E _ _ _ 59 [(0, .ref (pl 200)), (1, .int (iI 0))] [] _ _ _ _
      refine pm_e_sim pm_a96_59 rfl ?_
      show pm_E _ _ _ 60 [(0, .ref (pl 200)), (1, .int (iI 0))] [.ref (pl 200)] _ _ _ _
      refine pm_i_get pm_a96_60 rfl (cg_200 hW h200) rfl ?_
      show pm_E _ _ _ 63 [(0, .ref (pl 200)), (1, .int (iI 0))] [.ref (pl (60 + 2 * 3))] _ _ _ _
      refine pm_i_get pm_a96_63 rfl (cg_o (cj3 hW h200)) rfl ?_
      refine pm_e_top (y := iI ((y).1)) (congrArg (fun z : cdt => iI z.1) updC_at) ?_
      show pm_E _ _ _ 66 [(0, .ref (pl 200)), (1, .int (iI 0))] [.int (iI ((y).1))] _ _ _ _
      refine pm_e_sim pm_a96_66 rfl ?_
      refine pm_e_top (y := iI 1) (by decide +kernel) ?_
      show pm_E _ _ _ 67 [(0, .ref (pl 200)), (1, .int (iI 0))] [.int (iI 1), .int (iI ((y).1))] _ _ _ _
      refine pm_e_sim pm_a96_67 rfl ?_
      refine pm_e_top (y := iI ((y).1 - 1)) (iI_sub _ _) ?_
      show pm_E _ _ _ 68 [(0, .ref (pl 200)), (1, .int (iI 0))] [.int (iI ((y).1 - 1))] _ _ _ _
      refine pm_e_sim pm_a96_68 rfl ?_
      show pm_E _ _ _ 69 [(0, .ref (pl 200)), (1, .int (iI 0)), (2, .int (iI ((y).1 - 1)))] [] _ _ _ _
      refine pm_e_sim pm_a96_69 rfl ?_
      show pm_E _ _ _ 70 [(0, .ref (pl 200)), (1, .int (iI 0)), (2, .int (iI ((y).1 - 1)))] [.int (iI ((y).1 - 1))] _ _ _ _
      refine pm_i_lt (t := 96) pm_a96_70 rfl ⟨by omega, by omega⟩ (fun h_71 => ?_) (fun h_71 => ?_)
      · skip
        show pm_E _ _ _ 96 [(0, .ref (pl 200)), (1, .int (iI 0)), (2, .int (iI ((y).1 - 1)))] [] _ _ _ _
        refine pm_e_sim pm_a96_96 rfl ?_
        show pm_E _ _ _ 97 [(0, .ref (pl 200)), (1, .int (iI 0)), (2, .int (iI ((y).1 - 1)))] [.int (iI 0)] _ _ _ _
        refine pm_e_ret pm_a96_97 rfl rfl rfl rfl rfl rfl rfl rfl ?_
        refine k0 _ _ _ r ⟨fun i hi => by unfold updS; rw [if_neg hi], fun i i1 i2 i7 i8 => by unfold updA; rw [if_neg i8, if_neg i2, if_neg i1], h3, hin7, fun i i2 i3 => by rw [updC_n i3, updC_n i2], by rw [updC_n (by decide), updC_at]; exact hx.1, by rw [updC_at]; exact hy.1⟩ hL (Or.inl ?_)
        rcases hy.2 with ⟨_, z, _⟩ | ⟨z, _⟩
        · omega
        · have r3 : rm 3 = 500 := rfl
          omega
      · skip
        show pm_E _ _ _ 73 [(0, .ref (pl 200)), (1, .int (iI 0)), (2, .int (iI ((y).1 - 1)))] [] _ _ _ _
        refine pm_e_sim pm_a96_73 rfl ?_
        show pm_E _ _ _ 74 [(0, .ref (pl 200)), (1, .int (iI 0)), (2, .int (iI ((y).1 - 1)))] [.int (iI 0)] _ _ _ _
        refine pm_e_ift pm_a96_74 rfl (by decide +kernel) ?_
        show pm_E _ _ _ 96 [(0, .ref (pl 200)), (1, .int (iI 0)), (2, .int (iI ((y).1 - 1)))] [] _ _ _ _
        refine pm_e_sim pm_a96_96 rfl ?_
        show pm_E _ _ _ 97 [(0, .ref (pl 200)), (1, .int (iI 0)), (2, .int (iI ((y).1 - 1)))] [.int (iI 0)] _ _ _ _
        refine pm_e_ret pm_a96_97 rfl rfl rfl rfl rfl rfl rfl rfl ?_
        refine k0 _ _ _ r ⟨fun i hi => by unfold updS; rw [if_neg hi], fun i i1 i2 i7 i8 => by unfold updA; rw [if_neg i8, if_neg i2, if_neg i1], h3, hin7, fun i i2 i3 => by rw [updC_n i3, updC_n i2], by rw [updC_n (by decide), updC_at]; exact hx.1, by rw [updC_at]; exact hy.1⟩ hL (Or.inl ?_)
        rcases hy.2 with ⟨_, z, _⟩ | ⟨z, _⟩
        · omega
        · have r3 : rm 3 = 500 := rfl
          omega
    · skip
      show pm_E _ _ _ 53 [(0, .ref (pl 200))] [] _ _ _ _
      refine pm_e_sim pm_a96_53 rfl ?_
      refine pm_e_top (y := iI 1) (by decide +kernel) ?_
      show pm_E _ _ _ 54 [(0, .ref (pl 200))] [.int (iI 1)] _ _ _ _
      refine pm_e_goto pm_a96_54 rfl ?_
      show pm_E _ _ _ 58 [(0, .ref (pl 200))] [.int (iI 1)] _ _ _ _
      refine pm_e_sim pm_a96_58 rfl ?_
      show pm_E _ _ _ 59 [(0, .ref (pl 200)), (1, .int (iI 1))] [] _ _ _ _
      refine pm_e_sim pm_a96_59 rfl ?_
      show pm_E _ _ _ 60 [(0, .ref (pl 200)), (1, .int (iI 1))] [.ref (pl 200)] _ _ _ _
      refine pm_i_get pm_a96_60 rfl (cg_200 hW h200) rfl ?_
      show pm_E _ _ _ 63 [(0, .ref (pl 200)), (1, .int (iI 1))] [.ref (pl (60 + 2 * 3))] _ _ _ _
      refine pm_i_get pm_a96_63 rfl (cg_o (cj3 hW h200)) rfl ?_
      refine pm_e_top (y := iI ((y).1)) (congrArg (fun z : cdt => iI z.1) updC_at) ?_
      show pm_E _ _ _ 66 [(0, .ref (pl 200)), (1, .int (iI 1))] [.int (iI ((y).1))] _ _ _ _
      refine pm_e_sim pm_a96_66 rfl ?_
      refine pm_e_top (y := iI 1) (by decide +kernel) ?_
      show pm_E _ _ _ 67 [(0, .ref (pl 200)), (1, .int (iI 1))] [.int (iI 1), .int (iI ((y).1))] _ _ _ _
      refine pm_e_sim pm_a96_67 rfl ?_
      refine pm_e_top (y := iI ((y).1 - 1)) (iI_sub _ _) ?_
      show pm_E _ _ _ 68 [(0, .ref (pl 200)), (1, .int (iI 1))] [.int (iI ((y).1 - 1))] _ _ _ _
      refine pm_e_sim pm_a96_68 rfl ?_
      show pm_E _ _ _ 69 [(0, .ref (pl 200)), (1, .int (iI 1)), (2, .int (iI ((y).1 - 1)))] [] _ _ _ _
      obtain ⟨w0, w3, w4⟩ : r.length ≤ rm 3 ∧ y.1 = r.length ∧ rg y.2.2 r.length 0 = r := by rcases hy.2 with ⟨z, _, z1, z2⟩ | ⟨_, z⟩; exact ⟨z, z1, z2⟩; omega
      refine C_tlo_l (R := R) hW h200 (by rw [updC_at]; exact hy.1) (y.1.toNat + 1) (y.1 - 1) _ _ (by omega) (by rw [updC_at]; omega) ?_ hin7 (fun s2 a2 z1 z2 z5 z6 => ?_) (fun s2 a2 z1 z2 z5 z6 => ?_) (by omega)
      · rw [updC_at, show (y.1 - (y.1 - 1 + 1)).toNat = 0 by omega]
        refine ⟨by show R.length ≤ 1500; omega, by show s 19 + (B.length : Int) = 1500 - (R.length : Int); omega, ?_⟩
        show rg (a 7) R.length (s 19 + (B.length : Int)) = R
        exact hR
      · rw [updC_at, w3, show ((r.length : Int)).toNat = r.length by omega, w4] at z6
        exact k1 s2 a2 _ r ⟨fun i hi => by rw [z1 i hi]; unfold updS; rw [if_neg hi], fun i i1 i2 i7 i8 => by rw [z2 i i7]; unfold updA; rw [if_neg i8, if_neg i2, if_neg i1], fun q => by rw [z2 1 (by decide)]; exact h3 q, z5, fun i i2 i3 => by rw [updC_n i3, updC_n i2], by rw [updC_n (by decide), updC_at]; exact hx.1, by rw [updC_at]; exact hy.1⟩ z6 hL w0
      · rw [updC_at, w3] at z6
        exact k0 s2 a2 _ r ⟨fun i hi => by rw [z1 i hi]; unfold updS; rw [if_neg hi], fun i i1 i2 i7 i8 => by rw [z2 i i7]; unfold updA; rw [if_neg i8, if_neg i2, if_neg i1], fun q => by rw [z2 1 (by decide)]; exact h3 q, z5, fun i i2 i3 => by rw [updC_n i3, updC_n i2], by rw [updC_n (by decide), updC_at]; exact hx.1, by rw [updC_at]; exact hy.1⟩ hL (Or.inr ⟨w0, by omega⟩)
  · skip
    show pm_E _ _ _ 14 [(0, .ref (pl 200))] [] _ _ _ _
    refine pm_e_sim pm_a96_14 rfl ?_
    refine pm_e_top (y := iI 0) (by decide +kernel) ?_
    show pm_E _ _ _ 15 [(0, .ref (pl 200))] [.int (iI 0)] _ _ _ _
    refine pm_e_ret pm_a96_15 rfl rfl rfl rfl rfl rfl rfl rfl ?_
    have hbig : rm 2 < B.length := by rcases hx.2 with ⟨_, z, _⟩ | ⟨z, _⟩; omega; exact z
    obtain ⟨r, hr⟩ := ab_ex (tm_small htB _ (Nat.le_refl _)) hnB
    have hlen := ab_len (by omega) hr
    have r2 : rm 2 = 502 := rfl
    refine k0 _ _ _ r ⟨fun i hi => by unfold updS; rw [if_neg hi], fun _ _ _ _ _ => rfl, hin1, hin7, fun i i2 i3 => by rw [updC_n i2], by rw [updC_at]; exact hx.1, by rw [updC_n (by decide)]; exact ho3⟩ ⟨gB, _, hgB, hr⟩ (Or.inl (by omega))
