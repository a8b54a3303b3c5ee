/-! THE REFERENCE: isRedex, hasNaught, count0 -/
def rdx (g : Int → Int) (p : Int) : Int := if g p = 0 then (if g (p + 1) = 1 then 1 else if g (p + 1) = 4 then 1 else if g (p + 1) = 0 then (if g (p + 2) = 3 then 1 else if g (p + 2) = 0 then (if g (p + 3) = 2 then 1 else 0) else 0) else 0) else 0
theorem rdx_in (g : Int → Int) (p : Int) : rdx g p = 0 ∨ rdx g p = 1 := by
  unfold rdx
  repeat' split
  all_goals omega
set_option maxHeartbeats 4000000 in
set_option maxRecDepth 100000 in
theorem M_isRedex {d : Nat} {A B : List va_E} {s : Nat → Int} {vl : Int64} {a : Nat → Int → Int} {nm : Nat → Int64} {Q : Option Value → List va_E → Nat → Nat → Prop} {x : Int} (hA : A.length = 18) (hr : ∀ j, in32 (a 4 j)) (hx0 : 0 ≤ x) (hx1 : x + 3 < 12000) (k : ∀ r, rdx (a 4) x = r → Q (some (.int (iI r))) (mh A s vl a nm B) 0 0) : pm_E none d pm_mm180 0 [(0, .ref 18), (1, .int (iI x))] [] (mh A s vl a nm B) 0 0 Q := by
  have r0 := hr x
  have r1 := hr (x + 1)
  have r2 := hr (x + 2)
  have r3 := hr (x + 3)
  refine pm_e_sim pm_a180_0 rfl ?_
  show pm_E _ _ _ 1 [(0, .ref 18), (1, .int (iI x))] [.ref 18] _ _ _ _
  refine pm_i_get pm_a180_1 rfl (mh_get (j := 0) hA rfl) rfl ?_
  show pm_E _ _ _ 4 [(0, .ref 18), (1, .int (iI x))] [.ref 22] _ _ _ _
  refine pm_e_sim pm_a180_4 rfl ?_
  show pm_E _ _ _ 5 [(0, .ref 18), (1, .int (iI x))] [.int (iI x), .ref 22] _ _ _ _
  refine pm_i_ald pm_a180_5 (mh_get (j := 4) hA rfl) (by omega) (by omega) ⟨by omega, by omega⟩ ?_
  show pm_E _ _ _ 6 [(0, .ref 18), (1, .int (iI x))] [.int (iI ((a 4) (x)))] _ _ _ _
  refine pm_i_eq (t := 11) pm_a180_6 rfl ⟨by omega, by omega⟩ (fun h_1 => ?_) (fun h_1 => ?_)
  · skip
    show pm_E _ _ _ 11 [(0, .ref 18), (1, .int (iI x))] [] _ _ _ _
    refine pm_e_sim pm_a180_11 rfl ?_
    show pm_E _ _ _ 12 [(0, .ref 18), (1, .int (iI x))] [.ref 18] _ _ _ _
    refine pm_i_get pm_a180_12 rfl (mh_get (j := 0) hA rfl) rfl ?_
    show pm_E _ _ _ 15 [(0, .ref 18), (1, .int (iI x))] [.ref 22] _ _ _ _
    refine pm_e_sim pm_a180_15 rfl ?_
    show pm_E _ _ _ 16 [(0, .ref 18), (1, .int (iI x))] [.int (iI x), .ref 22] _ _ _ _
    refine pm_e_sim pm_a180_16 rfl ?_
    refine pm_e_top (y := iI 1) (by decide +kernel) ?_
    show pm_E _ _ _ 17 [(0, .ref 18), (1, .int (iI x))] [.int (iI 1), .int (iI x), .ref 22] _ _ _ _
    refine pm_e_sim pm_a180_17 rfl ?_
    refine pm_e_top (y := iI (x + 1)) (iI_add _ _) ?_
    show pm_E _ _ _ 18 [(0, .ref 18), (1, .int (iI x))] [.int (iI (x + 1)), .ref 22] _ _ _ _
    refine pm_i_ald pm_a180_18 (mh_get (j := 4) hA rfl) (by omega) (by omega) ⟨by omega, by omega⟩ ?_
    show pm_E _ _ _ 19 [(0, .ref 18), (1, .int (iI x))] [.int (iI ((a 4) (x + 1)))] _ _ _ _
    refine pm_e_sim pm_a180_19 rfl ?_
    show pm_E _ _ _ 20 [(0, .ref 18), (1, .int (iI x)), (2, .int (iI ((a 4) (x + 1))))] [] _ _ _ _
    refine pm_e_sim pm_a180_20 rfl ?_
    show pm_E _ _ _ 21 [(0, .ref 18), (1, .int (iI x)), (2, .int (iI ((a 4) (x + 1))))] [.int (iI ((a 4) (x + 1)))] _ _ _ _
    refine pm_e_sim pm_a180_21 rfl ?_
    refine pm_e_top (y := iI 1) (by decide +kernel) ?_
    show pm_E _ _ _ 22 [(0, .ref 18), (1, .int (iI x)), (2, .int (iI ((a 4) (x + 1))))] [.int (iI 1), .int (iI ((a 4) (x + 1)))] _ _ _ _
    refine pm_c_eq (t := 30) pm_a180_22 rfl ⟨by omega, by omega⟩ ⟨by omega, by omega⟩ (fun h_2 => ?_) (fun h_2 => ?_)
    · skip
      show pm_E _ _ _ 30 [(0, .ref 18), (1, .int (iI x)), (2, .int (iI ((a 4) (x + 1))))] [] _ _ _ _
      refine pm_e_sim pm_a180_30 rfl ?_
      refine pm_e_top (y := iI 1) (by decide +kernel) ?_
      show pm_E _ _ _ 31 [(0, .ref 18), (1, .int (iI x)), (2, .int (iI ((a 4) (x + 1))))] [.int (iI 1)] _ _ _ _
      refine pm_e_ret pm_a180_31 rfl rfl rfl rfl rfl rfl rfl rfl ?_
      refine k 1 ?_
      unfold rdx
      repeat' split
      all_goals omega
    · skip
      show pm_E _ _ _ 25 [(0, .ref 18), (1, .int (iI x)), (2, .int (iI ((a 4) (x + 1))))] [] _ _ _ _
      refine pm_e_sim pm_a180_25 rfl ?_
      show pm_E _ _ _ 26 [(0, .ref 18), (1, .int (iI x)), (2, .int (iI ((a 4) (x + 1))))] [.int (iI ((a 4) (x + 1)))] _ _ _ _
      refine pm_e_sim pm_a180_26 rfl ?_
      refine pm_e_top (y := iI 4) (by decide +kernel) ?_
      show pm_E _ _ _ 27 [(0, .ref 18), (1, .int (iI x)), (2, .int (iI ((a 4) (x + 1))))] [.int (iI 4), .int (iI ((a 4) (x + 1)))] _ _ _ _
      refine pm_c_ne (t := 32) pm_a180_27 rfl ⟨by omega, by omega⟩ ⟨by omega, by omega⟩ (fun h_3 => ?_) (fun h_3 => ?_)
      · skip
        show pm_E _ _ _ 32 [(0, .ref 18), (1, .int (iI x)), (2, .int (iI ((a 4) (x + 1))))] [] _ _ _ _
        refine pm_e_sim pm_a180_32 rfl ?_
        show pm_E _ _ _ 33 [(0, .ref 18), (1, .int (iI x)), (2, .int (iI ((a 4) (x + 1))))] [.int (iI ((a 4) (x + 1)))] _ _ _ _
        refine pm_i_ne (t := 75) pm_a180_33 rfl ⟨by omega, by omega⟩ (fun h_4 => ?_) (fun h_4 => ?_)
        · skip
          show pm_E _ _ _ 75 [(0, .ref 18), (1, .int (iI x)), (2, .int (iI ((a 4) (x + 1))))] [] _ _ _ _
          refine pm_e_sim pm_a180_75 rfl ?_
          refine pm_e_top (y := iI 0) (by decide +kernel) ?_
          show pm_E _ _ _ 76 [(0, .ref 18), (1, .int (iI x)), (2, .int (iI ((a 4) (x + 1))))] [.int (iI 0)] _ _ _ _
          refine pm_e_ret pm_a180_76 rfl rfl rfl rfl rfl rfl rfl rfl ?_
          refine k 0 ?_
          unfold rdx
          repeat' split
          all_goals omega
        · skip
          show pm_E _ _ _ 36 [(0, .ref 18), (1, .int (iI x)), (2, .int (iI ((a 4) (x + 1))))] [] _ _ _ _
          refine pm_e_sim pm_a180_36 rfl ?_
          show pm_E _ _ _ 37 [(0, .ref 18), (1, .int (iI x)), (2, .int (iI ((a 4) (x + 1))))] [.ref 18] _ _ _ _
          refine pm_i_get pm_a180_37 rfl (mh_get (j := 0) hA rfl) rfl ?_
          show pm_E _ _ _ 40 [(0, .ref 18), (1, .int (iI x)), (2, .int (iI ((a 4) (x + 1))))] [.ref 22] _ _ _ _
          refine pm_e_sim pm_a180_40 rfl ?_
          show pm_E _ _ _ 41 [(0, .ref 18), (1, .int (iI x)), (2, .int (iI ((a 4) (x + 1))))] [.int (iI x), .ref 22] _ _ _ _
          refine pm_e_sim pm_a180_41 rfl ?_
          refine pm_e_top (y := iI 2) (by decide +kernel) ?_
          show pm_E _ _ _ 42 [(0, .ref 18), (1, .int (iI x)), (2, .int (iI ((a 4) (x + 1))))] [.int (iI 2), .int (iI x), .ref 22] _ _ _ _
          refine pm_e_sim pm_a180_42 rfl ?_
          refine pm_e_top (y := iI (x + 2)) (iI_add _ _) ?_
          show pm_E _ _ _ 43 [(0, .ref 18), (1, .int (iI x)), (2, .int (iI ((a 4) (x + 1))))] [.int (iI (x + 2)), .ref 22] _ _ _ _
          refine pm_i_ald pm_a180_43 (mh_get (j := 4) hA rfl) (by omega) (by omega) ⟨by omega, by omega⟩ ?_
          show pm_E _ _ _ 44 [(0, .ref 18), (1, .int (iI x)), (2, .int (iI ((a 4) (x + 1))))] [.int (iI ((a 4) (x + 2)))] _ _ _ _
          refine pm_e_sim pm_a180_44 rfl ?_
          refine pm_e_top (y := iI 3) (by decide +kernel) ?_
          show pm_E _ _ _ 45 [(0, .ref 18), (1, .int (iI x)), (2, .int (iI ((a 4) (x + 1))))] [.int (iI 3), .int (iI ((a 4) (x + 2)))] _ _ _ _
          refine pm_c_eq (t := 71) pm_a180_45 rfl ⟨by omega, by omega⟩ ⟨by omega, by omega⟩ (fun h_5 => ?_) (fun h_5 => ?_)
          · skip
            show pm_E _ _ _ 71 [(0, .ref 18), (1, .int (iI x)), (2, .int (iI ((a 4) (x + 1))))] [] _ _ _ _
            refine pm_e_sim pm_a180_71 rfl ?_
            refine pm_e_top (y := iI 1) (by decide +kernel) ?_
            show pm_E _ _ _ 72 [(0, .ref 18), (1, .int (iI x)), (2, .int (iI ((a 4) (x + 1))))] [.int (iI 1)] _ _ _ _
            refine pm_e_goto pm_a180_72 rfl ?_
            show pm_E _ _ _ 76 [(0, .ref 18), (1, .int (iI x)), (2, .int (iI ((a 4) (x + 1))))] [.int (iI 1)] _ _ _ _
            refine pm_e_ret pm_a180_76 rfl rfl rfl rfl rfl rfl rfl rfl ?_
            refine k 1 ?_
            unfold rdx
            repeat' split
            all_goals omega
          · skip
            show pm_E _ _ _ 48 [(0, .ref 18), (1, .int (iI x)), (2, .int (iI ((a 4) (x + 1))))] [] _ _ _ _
            refine pm_e_sim pm_a180_48 rfl ?_
            show pm_E _ _ _ 49 [(0, .ref 18), (1, .int (iI x)), (2, .int (iI ((a 4) (x + 1))))] [.ref 18] _ _ _ _
            refine pm_i_get pm_a180_49 rfl (mh_get (j := 0) hA rfl) rfl ?_
            show pm_E _ _ _ 52 [(0, .ref 18), (1, .int (iI x)), (2, .int (iI ((a 4) (x + 1))))] [.ref 22] _ _ _ _
            refine pm_e_sim pm_a180_52 rfl ?_
            show pm_E _ _ _ 53 [(0, .ref 18), (1, .int (iI x)), (2, .int (iI ((a 4) (x + 1))))] [.int (iI x), .ref 22] _ _ _ _
            refine pm_e_sim pm_a180_53 rfl ?_
            refine pm_e_top (y := iI 2) (by decide +kernel) ?_
            show pm_E _ _ _ 54 [(0, .ref 18), (1, .int (iI x)), (2, .int (iI ((a 4) (x + 1))))] [.int (iI 2), .int (iI x), .ref 22] _ _ _ _
            refine pm_e_sim pm_a180_54 rfl ?_
            refine pm_e_top (y := iI (x + 2)) (iI_add _ _) ?_
            show pm_E _ _ _ 55 [(0, .ref 18), (1, .int (iI x)), (2, .int (iI ((a 4) (x + 1))))] [.int (iI (x + 2)), .ref 22] _ _ _ _
            refine pm_i_ald pm_a180_55 (mh_get (j := 4) hA rfl) (by omega) (by omega) ⟨by omega, by omega⟩ ?_
            show pm_E _ _ _ 56 [(0, .ref 18), (1, .int (iI x)), (2, .int (iI ((a 4) (x + 1))))] [.int (iI ((a 4) (x + 2)))] _ _ _ _
            refine pm_i_ne (t := 75) pm_a180_56 rfl ⟨by omega, by omega⟩ (fun h_6 => ?_) (fun h_6 => ?_)
            · skip
              show pm_E _ _ _ 75 [(0, .ref 18), (1, .int (iI x)), (2, .int (iI ((a 4) (x + 1))))] [] _ _ _ _
              refine pm_e_sim pm_a180_75 rfl ?_
              refine pm_e_top (y := iI 0) (by decide +kernel) ?_
              show pm_E _ _ _ 76 [(0, .ref 18), (1, .int (iI x)), (2, .int (iI ((a 4) (x + 1))))] [.int (iI 0)] _ _ _ _
              refine pm_e_ret pm_a180_76 rfl rfl rfl rfl rfl rfl rfl rfl ?_
              refine k 0 ?_
              unfold rdx
              repeat' split
              all_goals omega
            · skip
              show pm_E _ _ _ 59 [(0, .ref 18), (1, .int (iI x)), (2, .int (iI ((a 4) (x + 1))))] [] _ _ _ _
              refine pm_e_sim pm_a180_59 rfl ?_
              show pm_E _ _ _ 60 [(0, .ref 18), (1, .int (iI x)), (2, .int (iI ((a 4) (x + 1))))] [.ref 18] _ _ _ _
              refine pm_i_get pm_a180_60 rfl (mh_get (j := 0) hA rfl) rfl ?_
              show pm_E _ _ _ 63 [(0, .ref 18), (1, .int (iI x)), (2, .int (iI ((a 4) (x + 1))))] [.ref 22] _ _ _ _
              refine pm_e_sim pm_a180_63 rfl ?_
              show pm_E _ _ _ 64 [(0, .ref 18), (1, .int (iI x)), (2, .int (iI ((a 4) (x + 1))))] [.int (iI x), .ref 22] _ _ _ _
              refine pm_e_sim pm_a180_64 rfl ?_
              refine pm_e_top (y := iI 3) (by decide +kernel) ?_
              show pm_E _ _ _ 65 [(0, .ref 18), (1, .int (iI x)), (2, .int (iI ((a 4) (x + 1))))] [.int (iI 3), .int (iI x), .ref 22] _ _ _ _
              refine pm_e_sim pm_a180_65 rfl ?_
              refine pm_e_top (y := iI (x + 3)) (iI_add _ _) ?_
              show pm_E _ _ _ 66 [(0, .ref 18), (1, .int (iI x)), (2, .int (iI ((a 4) (x + 1))))] [.int (iI (x + 3)), .ref 22] _ _ _ _
              refine pm_i_ald pm_a180_66 (mh_get (j := 4) hA rfl) (by omega) (by omega) ⟨by omega, by omega⟩ ?_
              show pm_E _ _ _ 67 [(0, .ref 18), (1, .int (iI x)), (2, .int (iI ((a 4) (x + 1))))] [.int (iI ((a 4) (x + 3)))] _ _ _ _
              refine pm_e_sim pm_a180_67 rfl ?_
              refine pm_e_top (y := iI 2) (by decide +kernel) ?_
              show pm_E _ _ _ 68 [(0, .ref 18), (1, .int (iI x)), (2, .int (iI ((a 4) (x + 1))))] [.int (iI 2), .int (iI ((a 4) (x + 3)))] _ _ _ _
              refine pm_c_ne (t := 75) pm_a180_68 rfl ⟨by omega, by omega⟩ ⟨by omega, by omega⟩ (fun h_7 => ?_) (fun h_7 => ?_)
              · skip
                show pm_E _ _ _ 75 [(0, .ref 18), (1, .int (iI x)), (2, .int (iI ((a 4) (x + 1))))] [] _ _ _ _
                refine pm_e_sim pm_a180_75 rfl ?_
                refine pm_e_top (y := iI 0) (by decide +kernel) ?_
                show pm_E _ _ _ 76 [(0, .ref 18), (1, .int (iI x)), (2, .int (iI ((a 4) (x + 1))))] [.int (iI 0)] _ _ _ _
                refine pm_e_ret pm_a180_76 rfl rfl rfl rfl rfl rfl rfl rfl ?_
                refine k 0 ?_
                unfold rdx
                repeat' split
                all_goals omega
              · skip
                show pm_E _ _ _ 71 [(0, .ref 18), (1, .int (iI x)), (2, .int (iI ((a 4) (x + 1))))] [] _ _ _ _
                refine pm_e_sim pm_a180_71 rfl ?_
                refine pm_e_top (y := iI 1) (by decide +kernel) ?_
                show pm_E _ _ _ 72 [(0, .ref 18), (1, .int (iI x)), (2, .int (iI ((a 4) (x + 1))))] [.int (iI 1)] _ _ _ _
                refine pm_e_goto pm_a180_72 rfl ?_
                show pm_E _ _ _ 76 [(0, .ref 18), (1, .int (iI x)), (2, .int (iI ((a 4) (x + 1))))] [.int (iI 1)] _ _ _ _
                refine pm_e_ret pm_a180_76 rfl rfl rfl rfl rfl rfl rfl rfl ?_
                refine k 1 ?_
                unfold rdx
                repeat' split
                all_goals omega
      · skip
        show pm_E _ _ _ 30 [(0, .ref 18), (1, .int (iI x)), (2, .int (iI ((a 4) (x + 1))))] [] _ _ _ _
        refine pm_e_sim pm_a180_30 rfl ?_
        refine pm_e_top (y := iI 1) (by decide +kernel) ?_
        show pm_E _ _ _ 31 [(0, .ref 18), (1, .int (iI x)), (2, .int (iI ((a 4) (x + 1))))] [.int (iI 1)] _ _ _ _
        refine pm_e_ret pm_a180_31 rfl rfl rfl rfl rfl rfl rfl rfl ?_
        refine k 1 ?_
        unfold rdx
        repeat' split
        all_goals omega
  · skip
    show pm_E _ _ _ 9 [(0, .ref 18), (1, .int (iI x))] [] _ _ _ _
    refine pm_e_sim pm_a180_9 rfl ?_
    refine pm_e_top (y := iI 0) (by decide +kernel) ?_
    show pm_E _ _ _ 10 [(0, .ref 18), (1, .int (iI x))] [.int (iI 0)] _ _ _ _
    refine pm_e_ret pm_a180_10 rfl rfl rfl rfl rfl rfl rfl rfl ?_
    refine k 0 ?_
    unfold rdx
    repeat' split
    all_goals omega
/-- is there a 10 from i to e -/
def nau (g : Int → Int) (e : Int) : Nat → Int → Int
  | 0, _ => 0
  | f + 1, i => if e ≤ i then 0 else if g i = 10 then 1 else nau g e f (i + 1)
theorem nau_e {g : Int → Int} {e i : Int} {f : Nat} (h : e ≤ i) : nau g e f i = 0 := by
  cases f with
  | zero => rfl
  | succ f => rw [nau, if_pos h]
theorem nau_y {g : Int → Int} {e i : Int} {f : Nat} (h : i < e) (h1 : g i = 10) : nau g e (f + 1) i = 1 := by rw [nau, if_neg (by omega), if_pos h1]
theorem nau_n {g : Int → Int} {e i : Int} {f : Nat} (h : i < e) (h1 : g i ≠ 10) : nau g e (f + 1) i = nau g e f (i + 1) := by rw [nau, if_neg (by omega), if_neg h1]
set_option maxHeartbeats 4000000 in
set_option maxRecDepth 100000 in
theorem M_hasNaught_l {d : Nat} {A B : List va_E} {s : Nat → Int} {vl : Int64} {a : Nat → Int → Int} {nm : Nat → Int64} {Q : Option Value → List va_E → Nat → Nat → Prop} {x e : Int} (hA : A.length = 18) (hr : ∀ j, in32 (a 4 j)) (he : e ≤ 12000) : ∀ (f : Nat) (i : Int), 0 ≤ i → i ≤ e → e ≤ i + f → Q (some (.int (iI (nau (a 4) e f i)))) (mh A s vl a nm B) 0 0 → pm_E none d pm_mm197 2 [(0, .ref 18), (1, .int (iI x)), (2, .int (iI e)), (3, .int (iI i))] [] (mh A s vl a nm B) 0 0 Q := by
  intro f
  induction f with
  | zero =>
    intro i h0 h1 h2 k
    have r0 := hr i
    refine pm_e_sim pm_a197_2 rfl ?_
    show pm_E _ _ _ 3 [(0, .ref 18), (1, .int (iI x)), (2, .int (iI e)), (3, .int (iI i))] [.int (iI i)] _ _ _ _
    refine pm_e_sim pm_a197_3 rfl ?_
    show pm_E _ _ _ 4 [(0, .ref 18), (1, .int (iI x)), (2, .int (iI e)), (3, .int (iI i))] [.int (iI e), .int (iI i)] _ _ _ _
    refine pm_c_ge (t := 26) pm_a197_4 rfl ⟨by omega, by omega⟩ ⟨by omega, by omega⟩ (fun h_1 => ?_) (fun h_1 => ?_)
    · skip
      show pm_E _ _ _ 26 [(0, .ref 18), (1, .int (iI x)), (2, .int (iI e)), (3, .int (iI i))] [] _ _ _ _
      refine pm_e_sim pm_a197_26 rfl ?_
      refine pm_e_top (y := iI 0) (by decide +kernel) ?_
      show pm_E _ _ _ 27 [(0, .ref 18), (1, .int (iI x)), (2, .int (iI e)), (3, .int (iI i))] [.int (iI 0)] _ _ _ _
      refine pm_e_ret pm_a197_27 rfl rfl rfl rfl rfl rfl rfl rfl ?_
      rw [nau_e (by omega)] at k
      exact k
    · skip
      exfalso; omega
  | succ f ih =>
    intro i h0 h1 h2 k
    have r0 := hr i
    refine pm_e_sim pm_a197_2 rfl ?_
    show pm_E _ _ _ 3 [(0, .ref 18), (1, .int (iI x)), (2, .int (iI e)), (3, .int (iI i))] [.int (iI i)] _ _ _ _
    refine pm_e_sim pm_a197_3 rfl ?_
    show pm_E _ _ _ 4 [(0, .ref 18), (1, .int (iI x)), (2, .int (iI e)), (3, .int (iI i))] [.int (iI e), .int (iI i)] _ _ _ _
    refine pm_c_ge (t := 26) pm_a197_4 rfl ⟨by omega, by omega⟩ ⟨by omega, by omega⟩ (fun h_1 => ?_) (fun h_1 => ?_)
    · skip
      show pm_E _ _ _ 26 [(0, .ref 18), (1, .int (iI x)), (2, .int (iI e)), (3, .int (iI i))] [] _ _ _ _
      refine pm_e_sim pm_a197_26 rfl ?_
      refine pm_e_top (y := iI 0) (by decide +kernel) ?_
      show pm_E _ _ _ 27 [(0, .ref 18), (1, .int (iI x)), (2, .int (iI e)), (3, .int (iI i))] [.int (iI 0)] _ _ _ _
      refine pm_e_ret pm_a197_27 rfl rfl rfl rfl rfl rfl rfl rfl ?_
      rw [nau_e (by omega)] at k
      exact k
    · skip
      show pm_E _ _ _ 7 [(0, .ref 18), (1, .int (iI x)), (2, .int (iI e)), (3, .int (iI i))] [] _ _ _ _
      refine pm_e_sim pm_a197_7 rfl ?_
      show pm_E _ _ _ 8 [(0, .ref 18), (1, .int (iI x)), (2, .int (iI e)), (3, .int (iI i))] [.ref 18] _ _ _ _
      refine pm_i_get pm_a197_8 rfl (mh_get (j := 0) hA rfl) rfl ?_
      show pm_E _ _ _ 11 [(0, .ref 18), (1, .int (iI x)), (2, .int (iI e)), (3, .int (iI i))] [.ref 22] _ _ _ _
      refine pm_e_sim pm_a197_11 rfl ?_
      show pm_E _ _ _ 12 [(0, .ref 18), (1, .int (iI x)), (2, .int (iI e)), (3, .int (iI i))] [.int (iI i), .ref 22] _ _ _ _
      refine pm_i_ald pm_a197_12 (mh_get (j := 4) hA rfl) (by omega) (by omega) ⟨by omega, by omega⟩ ?_
      show pm_E _ _ _ 13 [(0, .ref 18), (1, .int (iI x)), (2, .int (iI e)), (3, .int (iI i))] [.int (iI ((a 4) (i)))] _ _ _ _
      refine pm_e_sim pm_a197_13 rfl ?_
      refine pm_e_top (y := iI 10) (by decide +kernel) ?_
      show pm_E _ _ _ 15 [(0, .ref 18), (1, .int (iI x)), (2, .int (iI e)), (3, .int (iI i))] [.int (iI 10), .int (iI ((a 4) (i)))] _ _ _ _
      refine pm_c_ne (t := 20) pm_a197_15 rfl ⟨by omega, by omega⟩ ⟨by omega, by omega⟩ (fun h_2 => ?_) (fun h_2 => ?_)
      · skip
        show pm_E _ _ _ 20 [(0, .ref 18), (1, .int (iI x)), (2, .int (iI e)), (3, .int (iI i))] [] _ _ _ _
        refine pm_e_inc (y := iI (i + 1)) pm_a197_20 rfl (iI_add _ _) (by decide +kernel) rfl ?_
        show pm_E _ _ _ 23 [(0, .ref 18), (1, .int (iI x)), (2, .int (iI e)), (3, .int (iI (i + 1)))] [] _ _ _ _
        refine pm_e_goto pm_a197_23 rfl ?_
        show pm_E _ _ _ 2 [(0, .ref 18), (1, .int (iI x)), (2, .int (iI e)), (3, .int (iI (i + 1)))] [] _ _ _ _
        rw [nau_n (by omega) (by omega)] at k
        exact ih (i + 1) (by omega) (by omega) (by omega) k
      · skip
        show pm_E _ _ _ 18 [(0, .ref 18), (1, .int (iI x)), (2, .int (iI e)), (3, .int (iI i))] [] _ _ _ _
        refine pm_e_sim pm_a197_18 rfl ?_
        refine pm_e_top (y := iI 1) (by decide +kernel) ?_
        show pm_E _ _ _ 19 [(0, .ref 18), (1, .int (iI x)), (2, .int (iI e)), (3, .int (iI i))] [.int (iI 1)] _ _ _ _
        refine pm_e_ret pm_a197_19 rfl rfl rfl rfl rfl rfl rfl rfl ?_
        rw [nau_y (by omega) (by omega)] at k
        exact k
