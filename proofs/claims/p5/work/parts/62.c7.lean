/-! THE CLASS: Turner: what a step lays -/
theorem md_over {x : cdt} {R : Nat} {l l' : List Int} (h : md x R l) (ho : x.2.1 ≠ 0) : md x R (l ++ l') := by
  refine ⟨h.1, ?_⟩
  rcases h.2 with ⟨_, h1, _⟩ | ⟨h1, h2⟩
  · exact absurd h1 ho
  · exact Or.inr ⟨by rw [List.length_append]; omega, h2⟩
theorem bet_cons {g D q : Int → Int} {u : Int} {ne : Nat} {p e : Int} (h : p < e) : bet g D q u ne (e - p).toNat p = bpc g D q u ne p ++ bet g D q u ne (e - (p + 1)).toNat (p + 1) := by
  rw [show (e - p).toNat = (e - (p + 1)).toNat + 1 by omega]
  rfl
set_option maxHeartbeats 4000000 in
set_option maxRecDepth 100000 in
theorem C_putRaised_l {d n : Nat} {kd pl : Nat → Nat} {s : Nat → Int} {a : Nat → Int → Int} {c : Nat → cdt} {M : List va_E} {Q : Option Value → List va_E → Nat → Nat → Prop} {j : Nat} {x e m : Int} (hW : wf n kd pl) (hj : j < 38 ∧ al n kd pl (60 + 2 * j)) (hj1 : j ≠ 1) (hok : okx (rm j) (c j)) (hg : ∀ q, 0 ≤ q → q < (c j).1 → 0 ≤ (c j).2.2 q ∧ (c j).2.2 q ≤ 100000) (hx : 0 ≤ x) (he : e ≤ (c j).1) (hm : -1000 ≤ m ∧ m ≤ 1000) (hd : ∀ q, x ≤ q → q < e → 0 ≤ a 2 q ∧ a 2 q ≤ 1000) : ∀ (f : Nat) (i : Int) (z : cdt) (l : List Int), x ≤ i → i ≤ e → md z (rm 1) l → (∀ z2, md z2 (rm 1) (l ++ rg (rsI (c j).2.2 (a 2) m) (e - i).toNat i) → Q none (ch n kd pl s a (updC c 1 z2) M) 0 0) → e - i < (f : Int) → pm_E none (d + 2) pm_mm83 3 [(0, .ref (pl 15)), (1, .ref (pl (60 + 2 * j))), (2, .int (iI x)), (3, .int (iI e)), (4, .int (iI m)), (5, .int (iI i))] [] (ch n kd pl s a (updC c 1 z) M) 0 0 Q := by
  intro f
  induction f with
  | zero =>
    intro i z l hi0 hi1 hl k hf
    exfalso; omega
  | succ f ih =>
    intro i z l hi0 hi1 hl k hf
    have rb := rm_b j
    obtain ⟨o1, o2, o3, o4⟩ := id hok
    obtain ⟨p1, p2, p3, p4⟩ := id hl.1
    refine pm_e_sim pm_a83_3 rfl ?_
    show pm_E _ _ _ 5 [(0, .ref (pl 15)), (1, .ref (pl (60 + 2 * j))), (2, .int (iI x)), (3, .int (iI e)), (4, .int (iI m)), (5, .int (iI i))] [.int (iI i)] _ _ _ _
    refine pm_e_sim pm_a83_5 rfl ?_
    show pm_E _ _ _ 6 [(0, .ref (pl 15)), (1, .ref (pl (60 + 2 * j))), (2, .int (iI x)), (3, .int (iI e)), (4, .int (iI m)), (5, .int (iI i))] [.int (iI e), .int (iI i)] _ _ _ _
    refine pm_c_ge (t := 83) pm_a83_6 rfl ⟨by omega, by omega⟩ ⟨by omega, by omega⟩ (fun h_1 => ?_) (fun h_1 => ?_)
    · skip
      show pm_E _ _ _ 83 [(0, .ref (pl 15)), (1, .ref (pl (60 + 2 * j))), (2, .int (iI x)), (3, .int (iI e)), (4, .int (iI m)), (5, .int (iI i))] [] _ _ _ _
      refine pm_e_ret pm_a83_83 rfl rfl rfl rfl rfl rfl rfl rfl ?_
      by_cases hov : z.2.1 = 0
      · refine k z ?_
        rw [show (e - i).toNat = 0 by omega]
        show md z (rm 1) (l ++ [])
        rw [List.append_nil]
        exact hl
      · exact k z (md_over hl hov)
    · skip
      show pm_E _ _ _ 9 [(0, .ref (pl 15)), (1, .ref (pl (60 + 2 * j))), (2, .int (iI x)), (3, .int (iI e)), (4, .int (iI m)), (5, .int (iI i))] [] _ _ _ _
      refine pm_e_sim pm_a83_9 rfl ?_
      show pm_E _ _ _ 10 [(0, .ref (pl 15)), (1, .ref (pl (60 + 2 * j))), (2, .int (iI x)), (3, .int (iI e)), (4, .int (iI m)), (5, .int (iI i))] [.ref (pl 15)] _ _ _ _
      refine pm_i_get pm_a83_10 rfl (cg_15 hW) rfl ?_
      show pm_E _ _ _ 13 [(0, .ref (pl 15)), (1, .ref (pl (60 + 2 * j))), (2, .int (iI x)), (3, .int (iI e)), (4, .int (iI m)), (5, .int (iI i))] [.ref (pl (60 + 2 * 1))] _ _ _ _
      refine pm_i_get pm_a83_13 rfl (cg_o (cj1 hW)) rfl ?_
      refine pm_e_top (y := iI ((z).2.1)) (congrArg (fun z : cdt => iI z.2.1) updC_at) ?_
      show pm_E _ _ _ 16 [(0, .ref (pl 15)), (1, .ref (pl (60 + 2 * j))), (2, .int (iI x)), (3, .int (iI e)), (4, .int (iI m)), (5, .int (iI i))] [.int (iI ((z).2.1))] _ _ _ _
      refine pm_i_ne (t := 83) pm_a83_16 rfl ⟨by omega, by omega⟩ (fun h_2 => ?_) (fun h_2 => ?_)
      · skip
        show pm_E _ _ _ 83 [(0, .ref (pl 15)), (1, .ref (pl (60 + 2 * j))), (2, .int (iI x)), (3, .int (iI e)), (4, .int (iI m)), (5, .int (iI i))] [] _ _ _ _
        refine pm_e_ret pm_a83_83 rfl rfl rfl rfl rfl rfl rfl rfl ?_
        by_cases hov : z.2.1 = 0
        · refine k z ?_
          rw [show (e - i).toNat = 0 by omega]
          show md z (rm 1) (l ++ [])
          rw [List.append_nil]
          exact hl
        · exact k z (md_over hl hov)
      · skip
        show pm_E _ _ _ 19 [(0, .ref (pl 15)), (1, .ref (pl (60 + 2 * j))), (2, .int (iI x)), (3, .int (iI e)), (4, .int (iI m)), (5, .int (iI i))] [] _ _ _ _
        refine pm_e_sim pm_a83_19 rfl ?_
        show pm_E _ _ _ 20 [(0, .ref (pl 15)), (1, .ref (pl (60 + 2 * j))), (2, .int (iI x)), (3, .int (iI e)), (4, .int (iI m)), (5, .int (iI i))] [.ref (pl (60 + 2 * j))] _ _ _ _
        refine pm_e_sim pm_a83_20 rfl ?_
        show pm_E _ _ _ 22 [(0, .ref (pl 15)), (1, .ref (pl (60 + 2 * j))), (2, .int (iI x)), (3, .int (iI e)), (4, .int (iI m)), (5, .int (iI i))] [.int (iI i), .ref (pl (60 + 2 * j))] _ _ _ _
        refine pm_i_callv (k := (pl (60 + 2 * j))) (T2 := pm_mm47) pm_a83_22 rfl rfl rfl (cg_o hj) ⟨Nat.le_of_ble_eq_true rfl, Nat.le_of_ble_eq_true rfl, rfl, by decide +kernel⟩ ?_
        show pm_E none _ _ 0 [(0, .ref (pl (60 + 2 * j))), (1, .int (iI i))] [] _ _ _ _
        refine C_at hW hj (updC_n hj1) hok.1 hok.2.1 ⟨by omega, by omega⟩ ?_
        rw [atI_y (by omega) (by omega)]
        obtain ⟨_, _⟩ := hg (i) (by omega) (by omega)
        show pm_E _ _ _ 25 [(0, .ref (pl 15)), (1, .ref (pl (60 + 2 * j))), (2, .int (iI x)), (3, .int (iI e)), (4, .int (iI m)), (5, .int (iI i))] [.int (iI ((c j).2.2 i))] _ _ _ _
        refine pm_e_sim pm_a83_25 rfl ?_
        show pm_E _ _ _ 27 [(0, .ref (pl 15)), (1, .ref (pl (60 + 2 * j))), (2, .int (iI x)), (3, .int (iI e)), (4, .int (iI m)), (5, .int (iI i)), (6, .int (iI ((c j).2.2 i)))] [] _ _ _ _
        refine pm_e_sim pm_a83_27 rfl ?_
        show pm_E _ _ _ 29 [(0, .ref (pl 15)), (1, .ref (pl (60 + 2 * j))), (2, .int (iI x)), (3, .int (iI e)), (4, .int (iI m)), (5, .int (iI i)), (6, .int (iI ((c j).2.2 i)))] [.int (iI ((c j).2.2 i))] _ _ _ _
        refine pm_e_sim pm_a83_29 rfl ?_
        refine pm_e_top (y := iI 10) (by decide +kernel) ?_
        show pm_E _ _ _ 31 [(0, .ref (pl 15)), (1, .ref (pl (60 + 2 * j))), (2, .int (iI x)), (3, .int (iI e)), (4, .int (iI m)), (5, .int (iI i)), (6, .int (iI ((c j).2.2 i)))] [.int (iI 10), .int (iI ((c j).2.2 i))] _ _ _ _
        refine pm_c_lt (t := 52) pm_a83_31 rfl ⟨by omega, by omega⟩ ⟨by omega, by omega⟩ (fun h_3 => ?_) (fun h_3 => ?_)
        · skip
          show pm_E _ _ _ 52 [(0, .ref (pl 15)), (1, .ref (pl (60 + 2 * j))), (2, .int (iI x)), (3, .int (iI e)), (4, .int (iI m)), (5, .int (iI i)), (6, .int (iI ((c j).2.2 i)))] [] _ _ _ _
          refine pm_e_sim pm_a83_52 rfl ?_
          refine pm_e_top (y := iI 0) (by decide +kernel) ?_
          show pm_E _ _ _ 53 [(0, .ref (pl 15)), (1, .ref (pl (60 + 2 * j))), (2, .int (iI x)), (3, .int (iI e)), (4, .int (iI m)), (5, .int (iI i)), (6, .int (iI ((c j).2.2 i)))] [.int (iI 0)] _ _ _ _
          refine pm_e_sim pm_a83_53 rfl ?_
          show pm_E _ _ _ 55 [(0, .ref (pl 15)), (1, .ref (pl (60 + 2 * j))), (2, .int (iI x)), (3, .int (iI e)), (4, .int (iI m)), (5, .int (iI i)), (6, .int (iI ((c j).2.2 i))), (7, .int (iI 0))] [] _ _ _ _
          refine pm_e_sim pm_a83_55 rfl ?_
          show pm_E _ _ _ 56 [(0, .ref (pl 15)), (1, .ref (pl (60 + 2 * j))), (2, .int (iI x)), (3, .int (iI e)), (4, .int (iI m)), (5, .int (iI i)), (6, .int (iI ((c j).2.2 i))), (7, .int (iI 0))] [.ref (pl 15)] _ _ _ _
          refine pm_i_get pm_a83_56 rfl (cg_15 hW) rfl ?_
          show pm_E _ _ _ 59 [(0, .ref (pl 15)), (1, .ref (pl (60 + 2 * j))), (2, .int (iI x)), (3, .int (iI e)), (4, .int (iI m)), (5, .int (iI i)), (6, .int (iI ((c j).2.2 i))), (7, .int (iI 0))] [.ref (pl (60 + 2 * 1))] _ _ _ _
          refine pm_e_sim pm_a83_59 rfl ?_
          show pm_E _ _ _ 61 [(0, .ref (pl 15)), (1, .ref (pl (60 + 2 * j))), (2, .int (iI x)), (3, .int (iI e)), (4, .int (iI m)), (5, .int (iI i)), (6, .int (iI ((c j).2.2 i))), (7, .int (iI 0))] [.int (iI 0), .ref (pl (60 + 2 * 1))] _ _ _ _
          refine pm_e_ift pm_a83_61 rfl (by decide +kernel) ?_
          show pm_E _ _ _ 72 [(0, .ref (pl 15)), (1, .ref (pl (60 + 2 * j))), (2, .int (iI x)), (3, .int (iI e)), (4, .int (iI m)), (5, .int (iI i)), (6, .int (iI ((c j).2.2 i))), (7, .int (iI 0))] [.ref (pl (60 + 2 * 1))] _ _ _ _
          refine pm_e_sim pm_a83_72 rfl ?_
          show pm_E _ _ _ 74 [(0, .ref (pl 15)), (1, .ref (pl (60 + 2 * j))), (2, .int (iI x)), (3, .int (iI e)), (4, .int (iI m)), (5, .int (iI i)), (6, .int (iI ((c j).2.2 i))), (7, .int (iI 0))] [.int (iI ((c j).2.2 i)), .ref (pl (60 + 2 * 1))] _ _ _ _
          refine pm_i_callv (k := (pl (60 + 2 * 1))) (T2 := pm_mm40) pm_a83_74 rfl rfl rfl (cg_o (cj1 hW)) ⟨Nat.le_of_ble_eq_true rfl, Nat.le_of_ble_eq_true rfl, rfl, by decide +kernel⟩ ?_
          show pm_E none _ _ 0 [(0, .ref (pl (60 + 2 * 1))), (1, .int (iI ((c j).2.2 i)))] [] _ _ _ _
          refine C_put hW (cj1 hW) (l := l) (by rw [updC_at]; exact hl) ⟨by omega, by omega⟩ (fun y hy => ?_)
          rw [updC_s]
          show pm_E _ _ _ 77 [(0, .ref (pl 15)), (1, .ref (pl (60 + 2 * j))), (2, .int (iI x)), (3, .int (iI e)), (4, .int (iI m)), (5, .int (iI i)), (6, .int (iI ((c j).2.2 i))), (7, .int (iI 0))] [] _ _ _ _
          refine pm_e_inc (y := iI (i + 1)) pm_a83_77 rfl (iI_add _ _) (by decide +kernel) rfl ?_
          show pm_E _ _ _ 80 [(0, .ref (pl 15)), (1, .ref (pl (60 + 2 * j))), (2, .int (iI x)), (3, .int (iI e)), (4, .int (iI m)), (5, .int (iI (i + 1))), (6, .int (iI ((c j).2.2 i))), (7, .int (iI 0))] [] _ _ _ _
          refine pm_e_goto pm_a83_80 rfl ?_
          show pm_E _ _ _ 3 [(0, .ref (pl 15)), (1, .ref (pl (60 + 2 * j))), (2, .int (iI x)), (3, .int (iI e)), (4, .int (iI m)), (5, .int (iI (i + 1))), (6, .int (iI ((c j).2.2 i))), (7, .int (iI 0))] [] _ _ _ _
          show pm_E _ _ _ 3 ([(0, .ref (pl 15)), (1, .ref (pl (60 + 2 * j))), (2, .int (iI x)), (3, .int (iI e)), (4, .int (iI m)), (5, .int (iI (i + 1)))] ++ [(6, .int (iI ((c j).2.2 i))), (7, .int (iI 0))]) [] _ _ _ _
          refine pm_e_more [(6, .int (iI ((c j).2.2 i))), (7, .int (iI 0))] (show ([0, 1, 2, 3, 4, 5, 6, 7] : List Nat).Nodup from by decide) ?_
          have ev : rsI (c j).2.2 (a 2) m i = (c j).2.2 i := (rsI_n (by omega)).symm
          refine ih _ y _ (by omega) (by omega) hy (fun z2 hz => k z2 ?_) (by omega)
          rw [rg_cons (by omega), List.append_cons, ev]
          exact hz
        · skip
          show pm_E _ _ _ 34 [(0, .ref (pl 15)), (1, .ref (pl (60 + 2 * j))), (2, .int (iI x)), (3, .int (iI e)), (4, .int (iI m)), (5, .int (iI i)), (6, .int (iI ((c j).2.2 i)))] [] _ _ _ _
          refine pm_e_sim pm_a83_34 rfl ?_
          show pm_E _ _ _ 35 [(0, .ref (pl 15)), (1, .ref (pl (60 + 2 * j))), (2, .int (iI x)), (3, .int (iI e)), (4, .int (iI m)), (5, .int (iI i)), (6, .int (iI ((c j).2.2 i)))] [.ref (pl 15)] _ _ _ _
          refine pm_i_get pm_a83_35 rfl (cg_15 hW) rfl ?_
          show pm_E _ _ _ 38 [(0, .ref (pl 15)), (1, .ref (pl (60 + 2 * j))), (2, .int (iI x)), (3, .int (iI e)), (4, .int (iI m)), (5, .int (iI i)), (6, .int (iI ((c j).2.2 i)))] [.ref (pl 6)] _ _ _ _
          refine pm_e_sim pm_a83_38 rfl ?_
          show pm_E _ _ _ 40 [(0, .ref (pl 15)), (1, .ref (pl (60 + 2 * j))), (2, .int (iI x)), (3, .int (iI e)), (4, .int (iI m)), (5, .int (iI i)), (6, .int (iI ((c j).2.2 i)))] [.int (iI ((c j).2.2 i)), .ref (pl 6)] _ _ _ _
          refine pm_e_sim pm_a83_40 rfl ?_
          show pm_E _ _ _ 42 [(0, .ref (pl 15)), (1, .ref (pl (60 + 2 * j))), (2, .int (iI x)), (3, .int (iI e)), (4, .int (iI m)), (5, .int (iI i)), (6, .int (iI ((c j).2.2 i)))] [.int (iI i), .int (iI ((c j).2.2 i)), .ref (pl 6)] _ _ _ _
          refine pm_i_callv (k := (pl 6)) (T2 := pm_mm80) pm_a83_42 rfl rfl rfl (cg_6 hW) ⟨Nat.le_of_ble_eq_true rfl, Nat.le_of_ble_eq_true rfl, rfl, by decide +kernel⟩ ?_
          show pm_E none _ _ 0 [(0, .ref (pl 6)), (1, .int (iI ((c j).2.2 i))), (2, .int (iI i))] [] _ _ _ _
          refine C_binderDepth hW ⟨by omega, by omega⟩ ?_
          rw [shD_y (by omega) (by omega)]
          obtain ⟨_, _⟩ := hd i (by omega) (by omega)
          show pm_E _ _ _ 45 [(0, .ref (pl 15)), (1, .ref (pl (60 + 2 * j))), (2, .int (iI x)), (3, .int (iI e)), (4, .int (iI m)), (5, .int (iI i)), (6, .int (iI ((c j).2.2 i)))] [.int (iI (a 2 i - 1 - ((c j).2.2 i - 10)))] _ _ _ _
          refine pm_i_ge (t := 52) pm_a83_45 rfl ⟨by omega, by omega⟩ (fun h_4 => ?_) (fun h_4 => ?_)
          · skip
            show pm_E _ _ _ 52 [(0, .ref (pl 15)), (1, .ref (pl (60 + 2 * j))), (2, .int (iI x)), (3, .int (iI e)), (4, .int (iI m)), (5, .int (iI i)), (6, .int (iI ((c j).2.2 i)))] [] _ _ _ _
            refine pm_e_sim pm_a83_52 rfl ?_
            refine pm_e_top (y := iI 0) (by decide +kernel) ?_
            show pm_E _ _ _ 53 [(0, .ref (pl 15)), (1, .ref (pl (60 + 2 * j))), (2, .int (iI x)), (3, .int (iI e)), (4, .int (iI m)), (5, .int (iI i)), (6, .int (iI ((c j).2.2 i)))] [.int (iI 0)] _ _ _ _
            refine pm_e_sim pm_a83_53 rfl ?_
            show pm_E _ _ _ 55 [(0, .ref (pl 15)), (1, .ref (pl (60 + 2 * j))), (2, .int (iI x)), (3, .int (iI e)), (4, .int (iI m)), (5, .int (iI i)), (6, .int (iI ((c j).2.2 i))), (7, .int (iI 0))] [] _ _ _ _
            refine pm_e_sim pm_a83_55 rfl ?_
            show pm_E _ _ _ 56 [(0, .ref (pl 15)), (1, .ref (pl (60 + 2 * j))), (2, .int (iI x)), (3, .int (iI e)), (4, .int (iI m)), (5, .int (iI i)), (6, .int (iI ((c j).2.2 i))), (7, .int (iI 0))] [.ref (pl 15)] _ _ _ _
            refine pm_i_get pm_a83_56 rfl (cg_15 hW) rfl ?_
            show pm_E _ _ _ 59 [(0, .ref (pl 15)), (1, .ref (pl (60 + 2 * j))), (2, .int (iI x)), (3, .int (iI e)), (4, .int (iI m)), (5, .int (iI i)), (6, .int (iI ((c j).2.2 i))), (7, .int (iI 0))] [.ref (pl (60 + 2 * 1))] _ _ _ _
            refine pm_e_sim pm_a83_59 rfl ?_
            show pm_E _ _ _ 61 [(0, .ref (pl 15)), (1, .ref (pl (60 + 2 * j))), (2, .int (iI x)), (3, .int (iI e)), (4, .int (iI m)), (5, .int (iI i)), (6, .int (iI ((c j).2.2 i))), (7, .int (iI 0))] [.int (iI 0), .ref (pl (60 + 2 * 1))] _ _ _ _
            refine pm_e_ift pm_a83_61 rfl (by decide +kernel) ?_
            show pm_E _ _ _ 72 [(0, .ref (pl 15)), (1, .ref (pl (60 + 2 * j))), (2, .int (iI x)), (3, .int (iI e)), (4, .int (iI m)), (5, .int (iI i)), (6, .int (iI ((c j).2.2 i))), (7, .int (iI 0))] [.ref (pl (60 + 2 * 1))] _ _ _ _
            refine pm_e_sim pm_a83_72 rfl ?_
            show pm_E _ _ _ 74 [(0, .ref (pl 15)), (1, .ref (pl (60 + 2 * j))), (2, .int (iI x)), (3, .int (iI e)), (4, .int (iI m)), (5, .int (iI i)), (6, .int (iI ((c j).2.2 i))), (7, .int (iI 0))] [.int (iI ((c j).2.2 i)), .ref (pl (60 + 2 * 1))] _ _ _ _
            refine pm_i_callv (k := (pl (60 + 2 * 1))) (T2 := pm_mm40) pm_a83_74 rfl rfl rfl (cg_o (cj1 hW)) ⟨Nat.le_of_ble_eq_true rfl, Nat.le_of_ble_eq_true rfl, rfl, by decide +kernel⟩ ?_
            show pm_E none _ _ 0 [(0, .ref (pl (60 + 2 * 1))), (1, .int (iI ((c j).2.2 i)))] [] _ _ _ _
            refine C_put hW (cj1 hW) (l := l) (by rw [updC_at]; exact hl) ⟨by omega, by omega⟩ (fun y hy => ?_)
            rw [updC_s]
            show pm_E _ _ _ 77 [(0, .ref (pl 15)), (1, .ref (pl (60 + 2 * j))), (2, .int (iI x)), (3, .int (iI e)), (4, .int (iI m)), (5, .int (iI i)), (6, .int (iI ((c j).2.2 i))), (7, .int (iI 0))] [] _ _ _ _
            refine pm_e_inc (y := iI (i + 1)) pm_a83_77 rfl (iI_add _ _) (by decide +kernel) rfl ?_
            show pm_E _ _ _ 80 [(0, .ref (pl 15)), (1, .ref (pl (60 + 2 * j))), (2, .int (iI x)), (3, .int (iI e)), (4, .int (iI m)), (5, .int (iI (i + 1))), (6, .int (iI ((c j).2.2 i))), (7, .int (iI 0))] [] _ _ _ _
            refine pm_e_goto pm_a83_80 rfl ?_
            show pm_E _ _ _ 3 [(0, .ref (pl 15)), (1, .ref (pl (60 + 2 * j))), (2, .int (iI x)), (3, .int (iI e)), (4, .int (iI m)), (5, .int (iI (i + 1))), (6, .int (iI ((c j).2.2 i))), (7, .int (iI 0))] [] _ _ _ _
            show pm_E _ _ _ 3 ([(0, .ref (pl 15)), (1, .ref (pl (60 + 2 * j))), (2, .int (iI x)), (3, .int (iI e)), (4, .int (iI m)), (5, .int (iI (i + 1)))] ++ [(6, .int (iI ((c j).2.2 i))), (7, .int (iI 0))]) [] _ _ _ _
            refine pm_e_more [(6, .int (iI ((c j).2.2 i))), (7, .int (iI 0))] (show ([0, 1, 2, 3, 4, 5, 6, 7] : List Nat).Nodup from by decide) ?_
            have ev : rsI (c j).2.2 (a 2) m i = (c j).2.2 i := (rsI_n (by omega)).symm
            refine ih _ y _ (by omega) (by omega) hy (fun z2 hz => k z2 ?_) (by omega)
            rw [rg_cons (by omega), List.append_cons, ev]
            exact hz
          · skip
            show pm_E _ _ _ 48 [(0, .ref (pl 15)), (1, .ref (pl (60 + 2 * j))), (2, .int (iI x)), (3, .int (iI e)), (4, .int (iI m)), (5, .int (iI i)), (6, .int (iI ((c j).2.2 i)))] [] _ _ _ _
            refine pm_e_sim pm_a83_48 rfl ?_
            refine pm_e_top (y := iI 1) (by decide +kernel) ?_
            show pm_E _ _ _ 49 [(0, .ref (pl 15)), (1, .ref (pl (60 + 2 * j))), (2, .int (iI x)), (3, .int (iI e)), (4, .int (iI m)), (5, .int (iI i)), (6, .int (iI ((c j).2.2 i)))] [.int (iI 1)] _ _ _ _
            refine pm_e_goto pm_a83_49 rfl ?_
            show pm_E _ _ _ 53 [(0, .ref (pl 15)), (1, .ref (pl (60 + 2 * j))), (2, .int (iI x)), (3, .int (iI e)), (4, .int (iI m)), (5, .int (iI i)), (6, .int (iI ((c j).2.2 i)))] [.int (iI 1)] _ _ _ _
            refine pm_e_sim pm_a83_53 rfl ?_
            show pm_E _ _ _ 55 [(0, .ref (pl 15)), (1, .ref (pl (60 + 2 * j))), (2, .int (iI x)), (3, .int (iI e)), (4, .int (iI m)), (5, .int (iI i)), (6, .int (iI ((c j).2.2 i))), (7, .int (iI 1))] [] _ _ _ _
            refine pm_e_sim pm_a83_55 rfl ?_
            show pm_E _ _ _ 56 [(0, .ref (pl 15)), (1, .ref (pl (60 + 2 * j))), (2, .int (iI x)), (3, .int (iI e)), (4, .int (iI m)), (5, .int (iI i)), (6, .int (iI ((c j).2.2 i))), (7, .int (iI 1))] [.ref (pl 15)] _ _ _ _
            refine pm_i_get pm_a83_56 rfl (cg_15 hW) rfl ?_
            show pm_E _ _ _ 59 [(0, .ref (pl 15)), (1, .ref (pl (60 + 2 * j))), (2, .int (iI x)), (3, .int (iI e)), (4, .int (iI m)), (5, .int (iI i)), (6, .int (iI ((c j).2.2 i))), (7, .int (iI 1))] [.ref (pl (60 + 2 * 1))] _ _ _ _
            refine pm_e_sim pm_a83_59 rfl ?_
            show pm_E _ _ _ 61 [(0, .ref (pl 15)), (1, .ref (pl (60 + 2 * j))), (2, .int (iI x)), (3, .int (iI e)), (4, .int (iI m)), (5, .int (iI i)), (6, .int (iI ((c j).2.2 i))), (7, .int (iI 1))] [.int (iI 1), .ref (pl (60 + 2 * 1))] _ _ _ _
            refine pm_e_iff pm_a83_61 rfl (by decide +kernel) ?_
            show pm_E _ _ _ 64 [(0, .ref (pl 15)), (1, .ref (pl (60 + 2 * j))), (2, .int (iI x)), (3, .int (iI e)), (4, .int (iI m)), (5, .int (iI i)), (6, .int (iI ((c j).2.2 i))), (7, .int (iI 1))] [.ref (pl (60 + 2 * 1))] _ _ _ _
            refine pm_e_sim pm_a83_64 rfl ?_
            show pm_E _ _ _ 66 [(0, .ref (pl 15)), (1, .ref (pl (60 + 2 * j))), (2, .int (iI x)), (3, .int (iI e)), (4, .int (iI m)), (5, .int (iI i)), (6, .int (iI ((c j).2.2 i))), (7, .int (iI 1))] [.int (iI ((c j).2.2 i)), .ref (pl (60 + 2 * 1))] _ _ _ _
            refine pm_e_sim pm_a83_66 rfl ?_
            show pm_E _ _ _ 68 [(0, .ref (pl 15)), (1, .ref (pl (60 + 2 * j))), (2, .int (iI x)), (3, .int (iI e)), (4, .int (iI m)), (5, .int (iI i)), (6, .int (iI ((c j).2.2 i))), (7, .int (iI 1))] [.int (iI m), .int (iI ((c j).2.2 i)), .ref (pl (60 + 2 * 1))] _ _ _ _
            refine pm_e_sim pm_a83_68 rfl ?_
            refine pm_e_top (y := iI ((c j).2.2 i + m)) (iI_add _ _) ?_
            show pm_E _ _ _ 69 [(0, .ref (pl 15)), (1, .ref (pl (60 + 2 * j))), (2, .int (iI x)), (3, .int (iI e)), (4, .int (iI m)), (5, .int (iI i)), (6, .int (iI ((c j).2.2 i))), (7, .int (iI 1))] [.int (iI ((c j).2.2 i + m)), .ref (pl (60 + 2 * 1))] _ _ _ _
            refine pm_e_goto pm_a83_69 rfl ?_
            show pm_E _ _ _ 74 [(0, .ref (pl 15)), (1, .ref (pl (60 + 2 * j))), (2, .int (iI x)), (3, .int (iI e)), (4, .int (iI m)), (5, .int (iI i)), (6, .int (iI ((c j).2.2 i))), (7, .int (iI 1))] [.int (iI ((c j).2.2 i + m)), .ref (pl (60 + 2 * 1))] _ _ _ _
            refine pm_i_callv (k := (pl (60 + 2 * 1))) (T2 := pm_mm40) pm_a83_74 rfl rfl rfl (cg_o (cj1 hW)) ⟨Nat.le_of_ble_eq_true rfl, Nat.le_of_ble_eq_true rfl, rfl, by decide +kernel⟩ ?_
            show pm_E none _ _ 0 [(0, .ref (pl (60 + 2 * 1))), (1, .int (iI ((c j).2.2 i + m)))] [] _ _ _ _
            refine C_put hW (cj1 hW) (l := l) (by rw [updC_at]; exact hl) ⟨by omega, by omega⟩ (fun y hy => ?_)
            rw [updC_s]
            show pm_E _ _ _ 77 [(0, .ref (pl 15)), (1, .ref (pl (60 + 2 * j))), (2, .int (iI x)), (3, .int (iI e)), (4, .int (iI m)), (5, .int (iI i)), (6, .int (iI ((c j).2.2 i))), (7, .int (iI 1))] [] _ _ _ _
            refine pm_e_inc (y := iI (i + 1)) pm_a83_77 rfl (iI_add _ _) (by decide +kernel) rfl ?_
            show pm_E _ _ _ 80 [(0, .ref (pl 15)), (1, .ref (pl (60 + 2 * j))), (2, .int (iI x)), (3, .int (iI e)), (4, .int (iI m)), (5, .int (iI (i + 1))), (6, .int (iI ((c j).2.2 i))), (7, .int (iI 1))] [] _ _ _ _
            refine pm_e_goto pm_a83_80 rfl ?_
            show pm_E _ _ _ 3 [(0, .ref (pl 15)), (1, .ref (pl (60 + 2 * j))), (2, .int (iI x)), (3, .int (iI e)), (4, .int (iI m)), (5, .int (iI (i + 1))), (6, .int (iI ((c j).2.2 i))), (7, .int (iI 1))] [] _ _ _ _
            show pm_E _ _ _ 3 ([(0, .ref (pl 15)), (1, .ref (pl (60 + 2 * j))), (2, .int (iI x)), (3, .int (iI e)), (4, .int (iI m)), (5, .int (iI (i + 1)))] ++ [(6, .int (iI ((c j).2.2 i))), (7, .int (iI 1))]) [] _ _ _ _
            refine pm_e_more [(6, .int (iI ((c j).2.2 i))), (7, .int (iI 1))] (show ([0, 1, 2, 3, 4, 5, 6, 7] : List Nat).Nodup from by decide) ?_
            have ev : rsI (c j).2.2 (a 2) m i = (c j).2.2 i + m := (rsI_y (by omega) (by omega)).symm
            refine ih _ y _ (by omega) (by omega) hy (fun z2 hz => k z2 ?_) (by omega)
            rw [rg_cons (by omega), List.append_cons, ev]
            exact hz
set_option maxHeartbeats 4000000 in
set_option maxRecDepth 100000 in
theorem C_putRaised {d n : Nat} {kd pl : Nat → Nat} {s : Nat → Int} {a : Nat → Int → Int} {c : Nat → cdt} {M : List va_E} {Q : Option Value → List va_E → Nat → Nat → Prop} {j : Nat} {x e m : Int} {y : cdt} {l : List Int} (hW : wf n kd pl) (hj : j < 38 ∧ al n kd pl (60 + 2 * j)) (hj1 : j ≠ 1) (hy : c j = y) (hok : okx (rm j) y) (hg : ∀ q, 0 ≤ q → q < y.1 → 0 ≤ y.2.2 q ∧ y.2.2 q ≤ 100000) (hx : 0 ≤ x) (hxe : x ≤ e) (he : e ≤ y.1) (hm : -1000 ≤ m ∧ m ≤ 1000) (hd : ∀ q, x ≤ q → q < e → 0 ≤ a 2 q ∧ a 2 q ≤ 1000) (hl : md (c 1) (rm 1) l) (k : ∀ z, md z (rm 1) (l ++ rg (rsI y.2.2 (a 2) m) (e - x).toNat x) → Q none (ch n kd pl s a (updC c 1 z) M) 0 0) : pm_E none (d + 2) pm_mm83 0 [(0, .ref (pl 15)), (1, .ref (pl (60 + 2 * j))), (2, .int (iI x)), (3, .int (iI e)), (4, .int (iI m))] [] (ch n kd pl s a c M) 0 0 Q := by
  subst hy
  have rb := rm_b j
  obtain ⟨o1, o2, o3, o4⟩ := id hok
  refine pm_e_sim pm_a83_0 rfl ?_
  show pm_E _ _ _ 1 [(0, .ref (pl 15)), (1, .ref (pl (60 + 2 * j))), (2, .int (iI x)), (3, .int (iI e)), (4, .int (iI m))] [.int (iI x)] _ _ _ _
  refine pm_e_sim pm_a83_1 rfl ?_
  show pm_E _ _ _ 3 [(0, .ref (pl 15)), (1, .ref (pl (60 + 2 * j))), (2, .int (iI x)), (3, .int (iI e)), (4, .int (iI m)), (5, .int (iI x))] [] _ _ _ _
  refine pm_e_heap (show ch n kd pl s a c M = ch n kd pl s a (updC c 1 (c 1)) M from by rw [updC_self]) ?_
  exact C_putRaised_l hW hj hj1 hok hg hx he hm hd ((e - x).toNat + 1) x (c 1) l (by omega) hxe hl k (by omega)
set_option maxHeartbeats 4000000 in
set_option maxRecDepth 100000 in
theorem C_putBody_l {d n : Nat} {kd pl : Nat → Nat} {s : Nat → Int} {a : Nat → Int → Int} {c : Nat → cdt} {M : List va_E} {Q : Option Value → List va_E → Nat → Nat → Prop} {j : Nat} {x u e : Int} (hW : wf n kd pl) (hj : j < 38 ∧ al n kd pl (60 + 2 * j)) (hj1 : j ≠ 1) (hok : okx (rm j) (c j)) (hg : ∀ q, 0 ≤ q → q < (c j).1 → 0 ≤ (c j).2.2 q ∧ (c j).2.2 q ≤ 100000) (hx : 0 ≤ x) (hue : u ≤ e) (he : e ≤ (c j).1) (hd : ∀ q, x ≤ q → q < u → 1 ≤ a 2 q ∧ a 2 q ≤ 1000) (hd0 : ∀ q, u ≤ q → q < e → 0 ≤ a 2 q ∧ a 2 q ≤ 1000) : ∀ (f : Nat) (i : Int) (z : cdt) (l : List Int), x ≤ i → i ≤ u → md z (rm 1) l → (∀ z2, md z2 (rm 1) (l ++ bet (c j).2.2 (fun q => a 2 q - 1) (a 2) u (e - u).toNat (u - i).toNat i) → Q none (ch n kd pl s a (updC c 1 z2) M) 0 0) → u - i < (f : Int) → pm_E none (d + 3) pm_mm82 3 [(0, .ref (pl 15)), (1, .ref (pl (60 + 2 * j))), (2, .int (iI x)), (3, .int (iI u)), (4, .int (iI e)), (5, .int (iI i))] [] (ch n kd pl s a (updC c 1 z) M) 0 0 Q := by
  intro f
  induction f with
  | zero =>
    intro i z l hi0 hi1 hl k hf
    exfalso; omega
  | succ f ih =>
    intro i z l hi0 hi1 hl k hf
    have rb := rm_b j
    obtain ⟨o1, o2, o3, o4⟩ := id hok
    obtain ⟨p1, p2, p3, p4⟩ := id hl.1
    refine pm_e_sim pm_a82_3 rfl ?_
    show pm_E _ _ _ 5 [(0, .ref (pl 15)), (1, .ref (pl (60 + 2 * j))), (2, .int (iI x)), (3, .int (iI u)), (4, .int (iI e)), (5, .int (iI i))] [.int (iI i)] _ _ _ _
    refine pm_e_sim pm_a82_5 rfl ?_
    show pm_E _ _ _ 6 [(0, .ref (pl 15)), (1, .ref (pl (60 + 2 * j))), (2, .int (iI x)), (3, .int (iI u)), (4, .int (iI e)), (5, .int (iI i))] [.int (iI u), .int (iI i)] _ _ _ _
    refine pm_c_ge (t := 105) pm_a82_6 rfl ⟨by omega, by omega⟩ ⟨by omega, by omega⟩ (fun h_1 => ?_) (fun h_1 => ?_)
    · skip
      show pm_E _ _ _ 105 [(0, .ref (pl 15)), (1, .ref (pl (60 + 2 * j))), (2, .int (iI x)), (3, .int (iI u)), (4, .int (iI e)), (5, .int (iI i))] [] _ _ _ _
      refine pm_e_ret pm_a82_105 rfl rfl rfl rfl rfl rfl rfl rfl ?_
      by_cases hov : z.2.1 = 0
      · refine k z ?_
        rw [show (u - i).toNat = 0 by omega]
        show md z (rm 1) (l ++ [])
        rw [List.append_nil]
        exact hl
      · exact k z (md_over hl hov)
    · skip
      show pm_E _ _ _ 9 [(0, .ref (pl 15)), (1, .ref (pl (60 + 2 * j))), (2, .int (iI x)), (3, .int (iI u)), (4, .int (iI e)), (5, .int (iI i))] [] _ _ _ _
      refine pm_e_sim pm_a82_9 rfl ?_
      show pm_E _ _ _ 10 [(0, .ref (pl 15)), (1, .ref (pl (60 + 2 * j))), (2, .int (iI x)), (3, .int (iI u)), (4, .int (iI e)), (5, .int (iI i))] [.ref (pl 15)] _ _ _ _
      refine pm_i_get pm_a82_10 rfl (cg_15 hW) rfl ?_
      show pm_E _ _ _ 13 [(0, .ref (pl 15)), (1, .ref (pl (60 + 2 * j))), (2, .int (iI x)), (3, .int (iI u)), (4, .int (iI e)), (5, .int (iI i))] [.ref (pl (60 + 2 * 1))] _ _ _ _
      refine pm_i_get pm_a82_13 rfl (cg_o (cj1 hW)) rfl ?_
      refine pm_e_top (y := iI ((z).2.1)) (congrArg (fun z : cdt => iI z.2.1) updC_at) ?_
      show pm_E _ _ _ 16 [(0, .ref (pl 15)), (1, .ref (pl (60 + 2 * j))), (2, .int (iI x)), (3, .int (iI u)), (4, .int (iI e)), (5, .int (iI i))] [.int (iI ((z).2.1))] _ _ _ _
      refine pm_i_ne (t := 105) pm_a82_16 rfl ⟨by omega, by omega⟩ (fun h_2 => ?_) (fun h_2 => ?_)
      · skip
        show pm_E _ _ _ 105 [(0, .ref (pl 15)), (1, .ref (pl (60 + 2 * j))), (2, .int (iI x)), (3, .int (iI u)), (4, .int (iI e)), (5, .int (iI i))] [] _ _ _ _
        refine pm_e_ret pm_a82_105 rfl rfl rfl rfl rfl rfl rfl rfl ?_
        by_cases hov : z.2.1 = 0
        · refine k z ?_
          rw [show (u - i).toNat = 0 by omega]
          show md z (rm 1) (l ++ [])
          rw [List.append_nil]
          exact hl
        · exact k z (md_over hl hov)
      · skip
        show pm_E _ _ _ 19 [(0, .ref (pl 15)), (1, .ref (pl (60 + 2 * j))), (2, .int (iI x)), (3, .int (iI u)), (4, .int (iI e)), (5, .int (iI i))] [] _ _ _ _
        refine pm_e_sim pm_a82_19 rfl ?_
        show pm_E _ _ _ 20 [(0, .ref (pl 15)), (1, .ref (pl (60 + 2 * j))), (2, .int (iI x)), (3, .int (iI u)), (4, .int (iI e)), (5, .int (iI i))] [.ref (pl (60 + 2 * j))] _ _ _ _
        refine pm_e_sim pm_a82_20 rfl ?_
        show pm_E _ _ _ 22 [(0, .ref (pl 15)), (1, .ref (pl (60 + 2 * j))), (2, .int (iI x)), (3, .int (iI u)), (4, .int (iI e)), (5, .int (iI i))] [.int (iI i), .ref (pl (60 + 2 * j))] _ _ _ _
        refine pm_i_callv (k := (pl (60 + 2 * j))) (T2 := pm_mm47) pm_a82_22 rfl rfl rfl (cg_o hj) ⟨Nat.le_of_ble_eq_true rfl, Nat.le_of_ble_eq_true rfl, rfl, by decide +kernel⟩ ?_
        show pm_E none _ _ 0 [(0, .ref (pl (60 + 2 * j))), (1, .int (iI i))] [] _ _ _ _
        refine C_at hW hj (updC_n hj1) hok.1 hok.2.1 ⟨by omega, by omega⟩ ?_
        rw [atI_y (by omega) (by omega)]
        obtain ⟨_, _⟩ := hg (i) (by omega) (by omega)
        show pm_E _ _ _ 25 [(0, .ref (pl 15)), (1, .ref (pl (60 + 2 * j))), (2, .int (iI x)), (3, .int (iI u)), (4, .int (iI e)), (5, .int (iI i))] [.int (iI ((c j).2.2 i))] _ _ _ _
        refine pm_e_sim pm_a82_25 rfl ?_
        show pm_E _ _ _ 27 [(0, .ref (pl 15)), (1, .ref (pl (60 + 2 * j))), (2, .int (iI x)), (3, .int (iI u)), (4, .int (iI e)), (5, .int (iI i)), (6, .int (iI ((c j).2.2 i)))] [] _ _ _ _
        refine pm_e_sim pm_a82_27 rfl ?_
        show pm_E _ _ _ 29 [(0, .ref (pl 15)), (1, .ref (pl (60 + 2 * j))), (2, .int (iI x)), (3, .int (iI u)), (4, .int (iI e)), (5, .int (iI i)), (6, .int (iI ((c j).2.2 i)))] [.int (iI ((c j).2.2 i))] _ _ _ _
        refine pm_e_sim pm_a82_29 rfl ?_
        refine pm_e_top (y := iI 10) (by decide +kernel) ?_
        show pm_E _ _ _ 31 [(0, .ref (pl 15)), (1, .ref (pl (60 + 2 * j))), (2, .int (iI x)), (3, .int (iI u)), (4, .int (iI e)), (5, .int (iI i)), (6, .int (iI ((c j).2.2 i)))] [.int (iI 10), .int (iI ((c j).2.2 i))] _ _ _ _
        refine pm_c_lt (t := 48) pm_a82_31 rfl ⟨by omega, by omega⟩ ⟨by omega, by omega⟩ (fun h_3 => ?_) (fun h_3 => ?_)
        · skip
          show pm_E _ _ _ 48 [(0, .ref (pl 15)), (1, .ref (pl (60 + 2 * j))), (2, .int (iI x)), (3, .int (iI u)), (4, .int (iI e)), (5, .int (iI i)), (6, .int (iI ((c j).2.2 i)))] [] _ _ _ _
          refine pm_e_sim pm_a82_48 rfl ?_
          refine pm_e_top (y := iI 1) (by decide +kernel) ?_
          show pm_E _ _ _ 49 [(0, .ref (pl 15)), (1, .ref (pl (60 + 2 * j))), (2, .int (iI x)), (3, .int (iI u)), (4, .int (iI e)), (5, .int (iI i)), (6, .int (iI ((c j).2.2 i)))] [.int (iI 1)] _ _ _ _
          refine pm_e_sim pm_a82_49 rfl ?_
          show pm_E _ _ _ 51 [(0, .ref (pl 15)), (1, .ref (pl (60 + 2 * j))), (2, .int (iI x)), (3, .int (iI u)), (4, .int (iI e)), (5, .int (iI i)), (6, .int (iI ((c j).2.2 i))), (7, .int (iI 1))] [] _ _ _ _
          refine pm_e_sim pm_a82_51 rfl ?_
          show pm_E _ _ _ 53 [(0, .ref (pl 15)), (1, .ref (pl (60 + 2 * j))), (2, .int (iI x)), (3, .int (iI u)), (4, .int (iI e)), (5, .int (iI i)), (6, .int (iI ((c j).2.2 i))), (7, .int (iI 1))] [.int (iI 1)] _ _ _ _
          refine pm_e_ift pm_a82_53 rfl (by decide +kernel) ?_
          show pm_E _ _ _ 78 [(0, .ref (pl 15)), (1, .ref (pl (60 + 2 * j))), (2, .int (iI x)), (3, .int (iI u)), (4, .int (iI e)), (5, .int (iI i)), (6, .int (iI ((c j).2.2 i))), (7, .int (iI 1))] [] _ _ _ _
          refine pm_e_sim pm_a82_78 rfl ?_
          show pm_E _ _ _ 79 [(0, .ref (pl 15)), (1, .ref (pl (60 + 2 * j))), (2, .int (iI x)), (3, .int (iI u)), (4, .int (iI e)), (5, .int (iI i)), (6, .int (iI ((c j).2.2 i))), (7, .int (iI 1))] [.ref (pl 15)] _ _ _ _
          refine pm_i_get pm_a82_79 rfl (cg_15 hW) rfl ?_
          show pm_E _ _ _ 82 [(0, .ref (pl 15)), (1, .ref (pl (60 + 2 * j))), (2, .int (iI x)), (3, .int (iI u)), (4, .int (iI e)), (5, .int (iI i)), (6, .int (iI ((c j).2.2 i))), (7, .int (iI 1))] [.ref (pl (60 + 2 * 1))] _ _ _ _
          refine pm_e_sim pm_a82_82 rfl ?_
          show pm_E _ _ _ 84 [(0, .ref (pl 15)), (1, .ref (pl (60 + 2 * j))), (2, .int (iI x)), (3, .int (iI u)), (4, .int (iI e)), (5, .int (iI i)), (6, .int (iI ((c j).2.2 i))), (7, .int (iI 1))] [.int (iI 1), .ref (pl (60 + 2 * 1))] _ _ _ _
          refine pm_e_ift pm_a82_84 rfl (by decide +kernel) ?_
          show pm_E _ _ _ 94 [(0, .ref (pl 15)), (1, .ref (pl (60 + 2 * j))), (2, .int (iI x)), (3, .int (iI u)), (4, .int (iI e)), (5, .int (iI i)), (6, .int (iI ((c j).2.2 i))), (7, .int (iI 1))] [.ref (pl (60 + 2 * 1))] _ _ _ _
          refine pm_e_sim pm_a82_94 rfl ?_
          show pm_E _ _ _ 96 [(0, .ref (pl 15)), (1, .ref (pl (60 + 2 * j))), (2, .int (iI x)), (3, .int (iI u)), (4, .int (iI e)), (5, .int (iI i)), (6, .int (iI ((c j).2.2 i))), (7, .int (iI 1))] [.int (iI ((c j).2.2 i)), .ref (pl (60 + 2 * 1))] _ _ _ _
          refine pm_i_callv (k := (pl (60 + 2 * 1))) (T2 := pm_mm40) pm_a82_96 rfl rfl rfl (cg_o (cj1 hW)) ⟨Nat.le_of_ble_eq_true rfl, Nat.le_of_ble_eq_true rfl, rfl, by decide +kernel⟩ ?_
          show pm_E none _ _ 0 [(0, .ref (pl (60 + 2 * 1))), (1, .int (iI ((c j).2.2 i)))] [] _ _ _ _
          refine C_put hW (cj1 hW) (l := l) (by rw [updC_at]; exact hl) ⟨by omega, by omega⟩ (fun y hy => ?_)
          rw [updC_s]
          show pm_E _ _ _ 99 [(0, .ref (pl 15)), (1, .ref (pl (60 + 2 * j))), (2, .int (iI x)), (3, .int (iI u)), (4, .int (iI e)), (5, .int (iI i)), (6, .int (iI ((c j).2.2 i))), (7, .int (iI 1))] [] _ _ _ _
          refine pm_e_inc (y := iI (i + 1)) pm_a82_99 rfl (iI_add _ _) (by decide +kernel) rfl ?_
          show pm_E _ _ _ 102 [(0, .ref (pl 15)), (1, .ref (pl (60 + 2 * j))), (2, .int (iI x)), (3, .int (iI u)), (4, .int (iI e)), (5, .int (iI (i + 1))), (6, .int (iI ((c j).2.2 i))), (7, .int (iI 1))] [] _ _ _ _
          refine pm_e_goto pm_a82_102 rfl ?_
          show pm_E _ _ _ 3 [(0, .ref (pl 15)), (1, .ref (pl (60 + 2 * j))), (2, .int (iI x)), (3, .int (iI u)), (4, .int (iI e)), (5, .int (iI (i + 1))), (6, .int (iI ((c j).2.2 i))), (7, .int (iI 1))] [] _ _ _ _
          show pm_E _ _ _ 3 ([(0, .ref (pl 15)), (1, .ref (pl (60 + 2 * j))), (2, .int (iI x)), (3, .int (iI u)), (4, .int (iI e)), (5, .int (iI (i + 1)))] ++ [(6, .int (iI ((c j).2.2 i))), (7, .int (iI 1))]) [] _ _ _ _
          refine pm_e_more [(6, .int (iI ((c j).2.2 i))), (7, .int (iI 1))] (show ([0, 1, 2, 3, 4, 5, 6, 7] : List Nat).Nodup from by decide) ?_
          obtain ⟨_, _⟩ := hd i (by omega) (by omega)
          have ev : bpc (c j).2.2 (fun q => a 2 q - 1) (a 2) u (e - u).toNat i = [(c j).2.2 i] := bpc_3 (D := fun q => a 2 q - 1) (show (c j).2.2 i - 10 < a 2 i - 1 by omega)
          refine ih _ y _ (by omega) (by omega) hy (fun z2 hz => k z2 ?_) (by omega)
          rw [bet_cons (by omega), ev, ← List.append_assoc]
          exact hz
        · skip
          show pm_E _ _ _ 34 [(0, .ref (pl 15)), (1, .ref (pl (60 + 2 * j))), (2, .int (iI x)), (3, .int (iI u)), (4, .int (iI e)), (5, .int (iI i)), (6, .int (iI ((c j).2.2 i)))] [] _ _ _ _
          refine pm_e_sim pm_a82_34 rfl ?_
          show pm_E _ _ _ 35 [(0, .ref (pl 15)), (1, .ref (pl (60 + 2 * j))), (2, .int (iI x)), (3, .int (iI u)), (4, .int (iI e)), (5, .int (iI i)), (6, .int (iI ((c j).2.2 i)))] [.ref (pl 15)] _ _ _ _
          refine pm_i_get pm_a82_35 rfl (cg_15 hW) rfl ?_
          show pm_E _ _ _ 38 [(0, .ref (pl 15)), (1, .ref (pl (60 + 2 * j))), (2, .int (iI x)), (3, .int (iI u)), (4, .int (iI e)), (5, .int (iI i)), (6, .int (iI ((c j).2.2 i)))] [.ref (pl 6)] _ _ _ _
          refine pm_e_sim pm_a82_38 rfl ?_
          show pm_E _ _ _ 40 [(0, .ref (pl 15)), (1, .ref (pl (60 + 2 * j))), (2, .int (iI x)), (3, .int (iI u)), (4, .int (iI e)), (5, .int (iI i)), (6, .int (iI ((c j).2.2 i)))] [.int (iI ((c j).2.2 i)), .ref (pl 6)] _ _ _ _
          refine pm_e_sim pm_a82_40 rfl ?_
          show pm_E _ _ _ 42 [(0, .ref (pl 15)), (1, .ref (pl (60 + 2 * j))), (2, .int (iI x)), (3, .int (iI u)), (4, .int (iI e)), (5, .int (iI i)), (6, .int (iI ((c j).2.2 i)))] [.int (iI i), .int (iI ((c j).2.2 i)), .ref (pl 6)] _ _ _ _
          refine pm_i_callv (k := (pl 6)) (T2 := pm_mm80) pm_a82_42 rfl rfl rfl (cg_6 hW) ⟨Nat.le_of_ble_eq_true rfl, Nat.le_of_ble_eq_true rfl, rfl, by decide +kernel⟩ ?_
          show pm_E none _ _ 0 [(0, .ref (pl 6)), (1, .int (iI ((c j).2.2 i))), (2, .int (iI i))] [] _ _ _ _
          refine C_binderDepth hW ⟨by omega, by omega⟩ ?_
          rw [shD_y (by omega) (by omega)]
          obtain ⟨_, _⟩ := hd i (by omega) (by omega)
          show pm_E _ _ _ 45 [(0, .ref (pl 15)), (1, .ref (pl (60 + 2 * j))), (2, .int (iI x)), (3, .int (iI u)), (4, .int (iI e)), (5, .int (iI i)), (6, .int (iI ((c j).2.2 i)))] [.int (iI (a 2 i - 1 - ((c j).2.2 i - 10)))] _ _ _ _
          refine pm_e_goto pm_a82_45 rfl ?_
          show pm_E _ _ _ 49 [(0, .ref (pl 15)), (1, .ref (pl (60 + 2 * j))), (2, .int (iI x)), (3, .int (iI u)), (4, .int (iI e)), (5, .int (iI i)), (6, .int (iI ((c j).2.2 i)))] [.int (iI (a 2 i - 1 - ((c j).2.2 i - 10)))] _ _ _ _
          refine pm_e_sim pm_a82_49 rfl ?_
          show pm_E _ _ _ 51 [(0, .ref (pl 15)), (1, .ref (pl (60 + 2 * j))), (2, .int (iI x)), (3, .int (iI u)), (4, .int (iI e)), (5, .int (iI i)), (6, .int (iI ((c j).2.2 i))), (7, .int (iI (a 2 i - 1 - ((c j).2.2 i - 10))))] [] _ _ _ _
          refine pm_e_sim pm_a82_51 rfl ?_
          show pm_E _ _ _ 53 [(0, .ref (pl 15)), (1, .ref (pl (60 + 2 * j))), (2, .int (iI x)), (3, .int (iI u)), (4, .int (iI e)), (5, .int (iI i)), (6, .int (iI ((c j).2.2 i))), (7, .int (iI (a 2 i - 1 - ((c j).2.2 i - 10))))] [.int (iI (a 2 i - 1 - ((c j).2.2 i - 10)))] _ _ _ _
          refine pm_i_ne (t := 78) pm_a82_53 rfl ⟨by omega, by omega⟩ (fun h_4 => ?_) (fun h_4 => ?_)
          · skip
            show pm_E _ _ _ 78 [(0, .ref (pl 15)), (1, .ref (pl (60 + 2 * j))), (2, .int (iI x)), (3, .int (iI u)), (4, .int (iI e)), (5, .int (iI i)), (6, .int (iI ((c j).2.2 i))), (7, .int (iI (a 2 i - 1 - ((c j).2.2 i - 10))))] [] _ _ _ _
            refine pm_e_sim pm_a82_78 rfl ?_
            show pm_E _ _ _ 79 [(0, .ref (pl 15)), (1, .ref (pl (60 + 2 * j))), (2, .int (iI x)), (3, .int (iI u)), (4, .int (iI e)), (5, .int (iI i)), (6, .int (iI ((c j).2.2 i))), (7, .int (iI (a 2 i - 1 - ((c j).2.2 i - 10))))] [.ref (pl 15)] _ _ _ _
            refine pm_i_get pm_a82_79 rfl (cg_15 hW) rfl ?_
            show pm_E _ _ _ 82 [(0, .ref (pl 15)), (1, .ref (pl (60 + 2 * j))), (2, .int (iI x)), (3, .int (iI u)), (4, .int (iI e)), (5, .int (iI i)), (6, .int (iI ((c j).2.2 i))), (7, .int (iI (a 2 i - 1 - ((c j).2.2 i - 10))))] [.ref (pl (60 + 2 * 1))] _ _ _ _
            refine pm_e_sim pm_a82_82 rfl ?_
            show pm_E _ _ _ 84 [(0, .ref (pl 15)), (1, .ref (pl (60 + 2 * j))), (2, .int (iI x)), (3, .int (iI u)), (4, .int (iI e)), (5, .int (iI i)), (6, .int (iI ((c j).2.2 i))), (7, .int (iI (a 2 i - 1 - ((c j).2.2 i - 10))))] [.int (iI (a 2 i - 1 - ((c j).2.2 i - 10))), .ref (pl (60 + 2 * 1))] _ _ _ _
            refine pm_i_ge (t := 94) pm_a82_84 rfl ⟨by omega, by omega⟩ (fun h_5 => ?_) (fun h_5 => ?_)
            · skip
              show pm_E _ _ _ 94 [(0, .ref (pl 15)), (1, .ref (pl (60 + 2 * j))), (2, .int (iI x)), (3, .int (iI u)), (4, .int (iI e)), (5, .int (iI i)), (6, .int (iI ((c j).2.2 i))), (7, .int (iI (a 2 i - 1 - ((c j).2.2 i - 10))))] [.ref (pl (60 + 2 * 1))] _ _ _ _
              refine pm_e_sim pm_a82_94 rfl ?_
              show pm_E _ _ _ 96 [(0, .ref (pl 15)), (1, .ref (pl (60 + 2 * j))), (2, .int (iI x)), (3, .int (iI u)), (4, .int (iI e)), (5, .int (iI i)), (6, .int (iI ((c j).2.2 i))), (7, .int (iI (a 2 i - 1 - ((c j).2.2 i - 10))))] [.int (iI ((c j).2.2 i)), .ref (pl (60 + 2 * 1))] _ _ _ _
              refine pm_i_callv (k := (pl (60 + 2 * 1))) (T2 := pm_mm40) pm_a82_96 rfl rfl rfl (cg_o (cj1 hW)) ⟨Nat.le_of_ble_eq_true rfl, Nat.le_of_ble_eq_true rfl, rfl, by decide +kernel⟩ ?_
              show pm_E none _ _ 0 [(0, .ref (pl (60 + 2 * 1))), (1, .int (iI ((c j).2.2 i)))] [] _ _ _ _
              refine C_put hW (cj1 hW) (l := l) (by rw [updC_at]; exact hl) ⟨by omega, by omega⟩ (fun y hy => ?_)
              rw [updC_s]
              show pm_E _ _ _ 99 [(0, .ref (pl 15)), (1, .ref (pl (60 + 2 * j))), (2, .int (iI x)), (3, .int (iI u)), (4, .int (iI e)), (5, .int (iI i)), (6, .int (iI ((c j).2.2 i))), (7, .int (iI (a 2 i - 1 - ((c j).2.2 i - 10))))] [] _ _ _ _
              refine pm_e_inc (y := iI (i + 1)) pm_a82_99 rfl (iI_add _ _) (by decide +kernel) rfl ?_
              show pm_E _ _ _ 102 [(0, .ref (pl 15)), (1, .ref (pl (60 + 2 * j))), (2, .int (iI x)), (3, .int (iI u)), (4, .int (iI e)), (5, .int (iI (i + 1))), (6, .int (iI ((c j).2.2 i))), (7, .int (iI (a 2 i - 1 - ((c j).2.2 i - 10))))] [] _ _ _ _
              refine pm_e_goto pm_a82_102 rfl ?_
              show pm_E _ _ _ 3 [(0, .ref (pl 15)), (1, .ref (pl (60 + 2 * j))), (2, .int (iI x)), (3, .int (iI u)), (4, .int (iI e)), (5, .int (iI (i + 1))), (6, .int (iI ((c j).2.2 i))), (7, .int (iI (a 2 i - 1 - ((c j).2.2 i - 10))))] [] _ _ _ _
              show pm_E _ _ _ 3 ([(0, .ref (pl 15)), (1, .ref (pl (60 + 2 * j))), (2, .int (iI x)), (3, .int (iI u)), (4, .int (iI e)), (5, .int (iI (i + 1)))] ++ [(6, .int (iI ((c j).2.2 i))), (7, .int (iI (a 2 i - 1 - ((c j).2.2 i - 10))))]) [] _ _ _ _
              refine pm_e_more [(6, .int (iI ((c j).2.2 i))), (7, .int (iI (a 2 i - 1 - ((c j).2.2 i - 10))))] (show ([0, 1, 2, 3, 4, 5, 6, 7] : List Nat).Nodup from by decide) ?_
              obtain ⟨_, _⟩ := hd i (by omega) (by omega)
              have ev : bpc (c j).2.2 (fun q => a 2 q - 1) (a 2) u (e - u).toNat i = [(c j).2.2 i] := bpc_3 (D := fun q => a 2 q - 1) (show (c j).2.2 i - 10 < a 2 i - 1 by omega)
              refine ih _ y _ (by omega) (by omega) hy (fun z2 hz => k z2 ?_) (by omega)
              rw [bet_cons (by omega), ev, ← List.append_assoc]
              exact hz
            · skip
              show pm_E _ _ _ 87 [(0, .ref (pl 15)), (1, .ref (pl (60 + 2 * j))), (2, .int (iI x)), (3, .int (iI u)), (4, .int (iI e)), (5, .int (iI i)), (6, .int (iI ((c j).2.2 i))), (7, .int (iI (a 2 i - 1 - ((c j).2.2 i - 10))))] [.ref (pl (60 + 2 * 1))] _ _ _ _
              refine pm_e_sim pm_a82_87 rfl ?_
              show pm_E _ _ _ 89 [(0, .ref (pl 15)), (1, .ref (pl (60 + 2 * j))), (2, .int (iI x)), (3, .int (iI u)), (4, .int (iI e)), (5, .int (iI i)), (6, .int (iI ((c j).2.2 i))), (7, .int (iI (a 2 i - 1 - ((c j).2.2 i - 10))))] [.int (iI ((c j).2.2 i)), .ref (pl (60 + 2 * 1))] _ _ _ _
              refine pm_e_sim pm_a82_89 rfl ?_
              refine pm_e_top (y := iI 1) (by decide +kernel) ?_
              show pm_E _ _ _ 90 [(0, .ref (pl 15)), (1, .ref (pl (60 + 2 * j))), (2, .int (iI x)), (3, .int (iI u)), (4, .int (iI e)), (5, .int (iI i)), (6, .int (iI ((c j).2.2 i))), (7, .int (iI (a 2 i - 1 - ((c j).2.2 i - 10))))] [.int (iI 1), .int (iI ((c j).2.2 i)), .ref (pl (60 + 2 * 1))] _ _ _ _
              refine pm_e_sim pm_a82_90 rfl ?_
              refine pm_e_top (y := iI ((c j).2.2 i - 1)) (iI_sub _ _) ?_
              show pm_E _ _ _ 91 [(0, .ref (pl 15)), (1, .ref (pl (60 + 2 * j))), (2, .int (iI x)), (3, .int (iI u)), (4, .int (iI e)), (5, .int (iI i)), (6, .int (iI ((c j).2.2 i))), (7, .int (iI (a 2 i - 1 - ((c j).2.2 i - 10))))] [.int (iI ((c j).2.2 i - 1)), .ref (pl (60 + 2 * 1))] _ _ _ _
              refine pm_e_goto pm_a82_91 rfl ?_
              show pm_E _ _ _ 96 [(0, .ref (pl 15)), (1, .ref (pl (60 + 2 * j))), (2, .int (iI x)), (3, .int (iI u)), (4, .int (iI e)), (5, .int (iI i)), (6, .int (iI ((c j).2.2 i))), (7, .int (iI (a 2 i - 1 - ((c j).2.2 i - 10))))] [.int (iI ((c j).2.2 i - 1)), .ref (pl (60 + 2 * 1))] _ _ _ _
              refine pm_i_callv (k := (pl (60 + 2 * 1))) (T2 := pm_mm40) pm_a82_96 rfl rfl rfl (cg_o (cj1 hW)) ⟨Nat.le_of_ble_eq_true rfl, Nat.le_of_ble_eq_true rfl, rfl, by decide +kernel⟩ ?_
              show pm_E none _ _ 0 [(0, .ref (pl (60 + 2 * 1))), (1, .int (iI ((c j).2.2 i - 1)))] [] _ _ _ _
              refine C_put hW (cj1 hW) (l := l) (by rw [updC_at]; exact hl) ⟨by omega, by omega⟩ (fun y hy => ?_)
              rw [updC_s]
              show pm_E _ _ _ 99 [(0, .ref (pl 15)), (1, .ref (pl (60 + 2 * j))), (2, .int (iI x)), (3, .int (iI u)), (4, .int (iI e)), (5, .int (iI i)), (6, .int (iI ((c j).2.2 i))), (7, .int (iI (a 2 i - 1 - ((c j).2.2 i - 10))))] [] _ _ _ _
              refine pm_e_inc (y := iI (i + 1)) pm_a82_99 rfl (iI_add _ _) (by decide +kernel) rfl ?_
              show pm_E _ _ _ 102 [(0, .ref (pl 15)), (1, .ref (pl (60 + 2 * j))), (2, .int (iI x)), (3, .int (iI u)), (4, .int (iI e)), (5, .int (iI (i + 1))), (6, .int (iI ((c j).2.2 i))), (7, .int (iI (a 2 i - 1 - ((c j).2.2 i - 10))))] [] _ _ _ _
              refine pm_e_goto pm_a82_102 rfl ?_
              show pm_E _ _ _ 3 [(0, .ref (pl 15)), (1, .ref (pl (60 + 2 * j))), (2, .int (iI x)), (3, .int (iI u)), (4, .int (iI e)), (5, .int (iI (i + 1))), (6, .int (iI ((c j).2.2 i))), (7, .int (iI (a 2 i - 1 - ((c j).2.2 i - 10))))] [] _ _ _ _
              show pm_E _ _ _ 3 ([(0, .ref (pl 15)), (1, .ref (pl (60 + 2 * j))), (2, .int (iI x)), (3, .int (iI u)), (4, .int (iI e)), (5, .int (iI (i + 1)))] ++ [(6, .int (iI ((c j).2.2 i))), (7, .int (iI (a 2 i - 1 - ((c j).2.2 i - 10))))]) [] _ _ _ _
              refine pm_e_more [(6, .int (iI ((c j).2.2 i))), (7, .int (iI (a 2 i - 1 - ((c j).2.2 i - 10))))] (show ([0, 1, 2, 3, 4, 5, 6, 7] : List Nat).Nodup from by decide) ?_
              obtain ⟨_, _⟩ := hd i (by omega) (by omega)
              have ev : bpc (c j).2.2 (fun q => a 2 q - 1) (a 2) u (e - u).toNat i = [(c j).2.2 i - 1] := bpc_2 (D := fun q => a 2 q - 1) (show a 2 i - 1 < (c j).2.2 i - 10 by omega)
              refine ih _ y _ (by omega) (by omega) hy (fun z2 hz => k z2 ?_) (by omega)
              rw [bet_cons (by omega), ev, ← List.append_assoc]
              exact hz
          · skip
            show pm_E _ _ _ 56 [(0, .ref (pl 15)), (1, .ref (pl (60 + 2 * j))), (2, .int (iI x)), (3, .int (iI u)), (4, .int (iI e)), (5, .int (iI i)), (6, .int (iI ((c j).2.2 i))), (7, .int (iI (a 2 i - 1 - ((c j).2.2 i - 10))))] [] _ _ _ _
            refine pm_e_sim pm_a82_56 rfl ?_
            show pm_E _ _ _ 57 [(0, .ref (pl 15)), (1, .ref (pl (60 + 2 * j))), (2, .int (iI x)), (3, .int (iI u)), (4, .int (iI e)), (5, .int (iI i)), (6, .int (iI ((c j).2.2 i))), (7, .int (iI (a 2 i - 1 - ((c j).2.2 i - 10))))] [.ref (pl 15)] _ _ _ _
            refine pm_e_sim pm_a82_57 rfl ?_
            show pm_E _ _ _ 58 [(0, .ref (pl 15)), (1, .ref (pl (60 + 2 * j))), (2, .int (iI x)), (3, .int (iI u)), (4, .int (iI e)), (5, .int (iI i)), (6, .int (iI ((c j).2.2 i))), (7, .int (iI (a 2 i - 1 - ((c j).2.2 i - 10))))] [.ref (pl (60 + 2 * j)), .ref (pl 15)] _ _ _ _
            refine pm_e_sim pm_a82_58 rfl ?_
            show pm_E _ _ _ 59 [(0, .ref (pl 15)), (1, .ref (pl (60 + 2 * j))), (2, .int (iI x)), (3, .int (iI u)), (4, .int (iI e)), (5, .int (iI i)), (6, .int (iI ((c j).2.2 i))), (7, .int (iI (a 2 i - 1 - ((c j).2.2 i - 10))))] [.int (iI u), .ref (pl (60 + 2 * j)), .ref (pl 15)] _ _ _ _
            refine pm_e_sim pm_a82_59 rfl ?_
            show pm_E _ _ _ 61 [(0, .ref (pl 15)), (1, .ref (pl (60 + 2 * j))), (2, .int (iI x)), (3, .int (iI u)), (4, .int (iI e)), (5, .int (iI i)), (6, .int (iI ((c j).2.2 i))), (7, .int (iI (a 2 i - 1 - ((c j).2.2 i - 10))))] [.int (iI e), .int (iI u), .ref (pl (60 + 2 * j)), .ref (pl 15)] _ _ _ _
            refine pm_e_sim pm_a82_61 rfl ?_
            show pm_E _ _ _ 62 [(0, .ref (pl 15)), (1, .ref (pl (60 + 2 * j))), (2, .int (iI x)), (3, .int (iI u)), (4, .int (iI e)), (5, .int (iI i)), (6, .int (iI ((c j).2.2 i))), (7, .int (iI (a 2 i - 1 - ((c j).2.2 i - 10))))] [.ref (pl 15), .int (iI e), .int (iI u), .ref (pl (60 + 2 * j)), .ref (pl 15)] _ _ _ _
            refine pm_i_get pm_a82_62 rfl (cg_15 hW) rfl ?_
            show pm_E _ _ _ 65 [(0, .ref (pl 15)), (1, .ref (pl (60 + 2 * j))), (2, .int (iI x)), (3, .int (iI u)), (4, .int (iI e)), (5, .int (iI i)), (6, .int (iI ((c j).2.2 i))), (7, .int (iI (a 2 i - 1 - ((c j).2.2 i - 10))))] [.ref (pl 6), .int (iI e), .int (iI u), .ref (pl (60 + 2 * j)), .ref (pl 15)] _ _ _ _
            refine pm_e_sim pm_a82_65 rfl ?_
            show pm_E _ _ _ 67 [(0, .ref (pl 15)), (1, .ref (pl (60 + 2 * j))), (2, .int (iI x)), (3, .int (iI u)), (4, .int (iI e)), (5, .int (iI i)), (6, .int (iI ((c j).2.2 i))), (7, .int (iI (a 2 i - 1 - ((c j).2.2 i - 10))))] [.int (iI i), .ref (pl 6), .int (iI e), .int (iI u), .ref (pl (60 + 2 * j)), .ref (pl 15)] _ _ _ _
            refine pm_i_callv (k := (pl 6)) (T2 := pm_mm75) pm_a82_67 rfl rfl rfl (cg_6 hW) ⟨Nat.le_of_ble_eq_true rfl, Nat.le_of_ble_eq_true rfl, rfl, by decide +kernel⟩ ?_
            show pm_E none _ _ 0 [(0, .ref (pl 6)), (1, .int (iI i))] [] _ _ _ _
            refine C_depthOf hW ⟨by omega, by omega⟩ ?_
            rw [shD_y (by omega) (by omega)]
            show pm_E _ _ _ 70 [(0, .ref (pl 15)), (1, .ref (pl (60 + 2 * j))), (2, .int (iI x)), (3, .int (iI u)), (4, .int (iI e)), (5, .int (iI i)), (6, .int (iI ((c j).2.2 i))), (7, .int (iI (a 2 i - 1 - ((c j).2.2 i - 10))))] [.int (iI (a 2 i)), .int (iI e), .int (iI u), .ref (pl (60 + 2 * j)), .ref (pl 15)] _ _ _ _
            refine pm_e_sim pm_a82_70 rfl ?_
            refine pm_e_top (y := iI 1) (by decide +kernel) ?_
            show pm_E _ _ _ 71 [(0, .ref (pl 15)), (1, .ref (pl (60 + 2 * j))), (2, .int (iI x)), (3, .int (iI u)), (4, .int (iI e)), (5, .int (iI i)), (6, .int (iI ((c j).2.2 i))), (7, .int (iI (a 2 i - 1 - ((c j).2.2 i - 10))))] [.int (iI 1), .int (iI (a 2 i)), .int (iI e), .int (iI u), .ref (pl (60 + 2 * j)), .ref (pl 15)] _ _ _ _
            refine pm_e_sim pm_a82_71 rfl ?_
            refine pm_e_top (y := iI (a 2 i - 1)) (iI_sub _ _) ?_
            show pm_E _ _ _ 72 [(0, .ref (pl 15)), (1, .ref (pl (60 + 2 * j))), (2, .int (iI x)), (3, .int (iI u)), (4, .int (iI e)), (5, .int (iI i)), (6, .int (iI ((c j).2.2 i))), (7, .int (iI (a 2 i - 1 - ((c j).2.2 i - 10))))] [.int (iI (a 2 i - 1)), .int (iI e), .int (iI u), .ref (pl (60 + 2 * j)), .ref (pl 15)] _ _ _ _
            refine pm_i_callv (k := (pl 15)) (T2 := pm_mm83) pm_a82_72 rfl rfl rfl (cg_15 hW) ⟨Nat.le_of_ble_eq_true rfl, Nat.le_of_ble_eq_true rfl, rfl, by decide +kernel⟩ ?_
            show pm_E none _ _ 0 [(0, .ref (pl 15)), (1, .ref (pl (60 + 2 * j))), (2, .int (iI u)), (3, .int (iI e)), (4, .int (iI (a 2 i - 1)))] [] _ _ _ _
            refine C_putRaised (l := l) hW hj hj1 (updC_n hj1) hok hg (by omega) (by omega) (by omega) ⟨by omega, by omega⟩ hd0 (by rw [updC_at]; exact hl) (fun y hy => ?_)
            rw [updC_s]
            show pm_E _ _ _ 75 [(0, .ref (pl 15)), (1, .ref (pl (60 + 2 * j))), (2, .int (iI x)), (3, .int (iI u)), (4, .int (iI e)), (5, .int (iI i)), (6, .int (iI ((c j).2.2 i))), (7, .int (iI (a 2 i - 1 - ((c j).2.2 i - 10))))] [] _ _ _ _
            refine pm_e_goto pm_a82_75 rfl ?_
            show pm_E _ _ _ 99 [(0, .ref (pl 15)), (1, .ref (pl (60 + 2 * j))), (2, .int (iI x)), (3, .int (iI u)), (4, .int (iI e)), (5, .int (iI i)), (6, .int (iI ((c j).2.2 i))), (7, .int (iI (a 2 i - 1 - ((c j).2.2 i - 10))))] [] _ _ _ _
            refine pm_e_inc (y := iI (i + 1)) pm_a82_99 rfl (iI_add _ _) (by decide +kernel) rfl ?_
            show pm_E _ _ _ 102 [(0, .ref (pl 15)), (1, .ref (pl (60 + 2 * j))), (2, .int (iI x)), (3, .int (iI u)), (4, .int (iI e)), (5, .int (iI (i + 1))), (6, .int (iI ((c j).2.2 i))), (7, .int (iI (a 2 i - 1 - ((c j).2.2 i - 10))))] [] _ _ _ _
            refine pm_e_goto pm_a82_102 rfl ?_
            show pm_E _ _ _ 3 [(0, .ref (pl 15)), (1, .ref (pl (60 + 2 * j))), (2, .int (iI x)), (3, .int (iI u)), (4, .int (iI e)), (5, .int (iI (i + 1))), (6, .int (iI ((c j).2.2 i))), (7, .int (iI (a 2 i - 1 - ((c j).2.2 i - 10))))] [] _ _ _ _
            show pm_E _ _ _ 3 ([(0, .ref (pl 15)), (1, .ref (pl (60 + 2 * j))), (2, .int (iI x)), (3, .int (iI u)), (4, .int (iI e)), (5, .int (iI (i + 1)))] ++ [(6, .int (iI ((c j).2.2 i))), (7, .int (iI (a 2 i - 1 - ((c j).2.2 i - 10))))]) [] _ _ _ _
            refine pm_e_more [(6, .int (iI ((c j).2.2 i))), (7, .int (iI (a 2 i - 1 - ((c j).2.2 i - 10))))] (show ([0, 1, 2, 3, 4, 5, 6, 7] : List Nat).Nodup from by decide) ?_
            obtain ⟨_, _⟩ := hd i (by omega) (by omega)
            have ev : bpc (c j).2.2 (fun q => a 2 q - 1) (a 2) u (e - u).toNat i = rg (rsI (c j).2.2 (a 2) (a 2 i - 1)) (e - u).toNat u := bpc_1 (D := fun q => a 2 q - 1) (show (c j).2.2 i - 10 = a 2 i - 1 by omega)
            refine ih _ y _ (by omega) (by omega) hy (fun z2 hz => k z2 ?_) (by omega)
            rw [bet_cons (by omega), ev, ← List.append_assoc]
            exact hz
set_option maxHeartbeats 4000000 in
set_option maxRecDepth 100000 in
theorem C_putBody {d n : Nat} {kd pl : Nat → Nat} {s : Nat → Int} {a : Nat → Int → Int} {c : Nat → cdt} {M : List va_E} {Q : Option Value → List va_E → Nat → Nat → Prop} {j : Nat} {x u e : Int} {y : cdt} {l : List Int} (hW : wf n kd pl) (hj : j < 38 ∧ al n kd pl (60 + 2 * j)) (hj1 : j ≠ 1) (hy : c j = y) (hok : okx (rm j) y) (hg : ∀ q, 0 ≤ q → q < y.1 → 0 ≤ y.2.2 q ∧ y.2.2 q ≤ 100000) (hxu : x ≤ u) (hx : 0 ≤ x) (hue : u ≤ e) (he : e ≤ y.1) (hd : ∀ q, x ≤ q → q < u → 1 ≤ a 2 q ∧ a 2 q ≤ 1000) (hd0 : ∀ q, u ≤ q → q < e → 0 ≤ a 2 q ∧ a 2 q ≤ 1000) (hl : md (c 1) (rm 1) l) (k : ∀ z, md z (rm 1) (l ++ bet y.2.2 (fun q => a 2 q - 1) (a 2) u (e - u).toNat (u - x).toNat x) → Q none (ch n kd pl s a (updC c 1 z) M) 0 0) : pm_E none (d + 3) pm_mm82 0 [(0, .ref (pl 15)), (1, .ref (pl (60 + 2 * j))), (2, .int (iI x)), (3, .int (iI u)), (4, .int (iI e))] [] (ch n kd pl s a c M) 0 0 Q := by
  subst hy
  have rb := rm_b j
  obtain ⟨o1, o2, o3, o4⟩ := id hok
  refine pm_e_sim pm_a82_0 rfl ?_
  show pm_E _ _ _ 1 [(0, .ref (pl 15)), (1, .ref (pl (60 + 2 * j))), (2, .int (iI x)), (3, .int (iI u)), (4, .int (iI e))] [.int (iI x)] _ _ _ _
  refine pm_e_sim pm_a82_1 rfl ?_
  show pm_E _ _ _ 3 [(0, .ref (pl 15)), (1, .ref (pl (60 + 2 * j))), (2, .int (iI x)), (3, .int (iI u)), (4, .int (iI e)), (5, .int (iI x))] [] _ _ _ _
  refine pm_e_heap (show ch n kd pl s a c M = ch n kd pl s a (updC c 1 (c 1)) M from by rw [updC_self]) ?_
  exact C_putBody_l hW hj hj1 hok hg hx hue he hd hd0 ((u - x).toNat + 1) x (c 1) l (by omega) hxu hl k (by omega)
set_option maxHeartbeats 4000000 in
set_option maxRecDepth 100000 in
theorem C_putShared {d n : Nat} {kd pl : Nat → Nat} {s : Nat → Int} {a : Nat → Int → Int} {c : Nat → cdt} {M : List va_E} {Q : Option Value → List va_E → Nat → Nat → Prop} {j : Nat} {x b cc e : Int} {y : cdt} {l : List Int} (hW : wf n kd pl) (hj : j < 38 ∧ al n kd pl (60 + 2 * j)) (hj1 : j ≠ 1) (hy : c j = y) (hok : okx (rm j) y) (hg : ∀ q, 0 ≤ q → q < y.1 → 0 ≤ y.2.2 q ∧ y.2.2 q ≤ 100000) (hx : 0 ≤ x) (hxb : x < b) (hbc : b < cc) (hce : cc < e) (he : e ≤ y.1) (hb : a 1 x = b) (hc : a 1 b = cc) (hl : md (c 1) (rm 1) l) (k : ∀ z, md z (rm 1) (l ++ [0] ++ [0] ++ rg y.2.2 (b - x).toNat x ++ rg y.2.2 (e - cc).toNat cc ++ [0] ++ rg y.2.2 (cc - b).toNat b ++ rg y.2.2 (e - cc).toNat cc) → Q none (ch n kd pl s a (updC c 1 z) M) 0 0) : pm_E none (d + 3) pm_mm85 0 [(0, .ref (pl 15)), (1, .ref (pl (60 + 2 * j))), (2, .int (iI x)), (3, .int (iI e))] [] (ch n kd pl s a c M) 0 0 Q := by
  subst hy
  have rb := rm_b j
  obtain ⟨o1, o2, o3, o4⟩ := id hok
  refine pm_e_sim pm_a85_0 rfl ?_
  show pm_E _ _ _ 1 [(0, .ref (pl 15)), (1, .ref (pl (60 + 2 * j))), (2, .int (iI x)), (3, .int (iI e))] [.ref (pl 15)] _ _ _ _
  refine pm_i_get pm_a85_1 rfl (cg_15 hW) rfl ?_
  show pm_E _ _ _ 4 [(0, .ref (pl 15)), (1, .ref (pl (60 + 2 * j))), (2, .int (iI x)), (3, .int (iI e))] [.ref (pl 6)] _ _ _ _
  refine pm_e_sim pm_a85_4 rfl ?_
  show pm_E _ _ _ 5 [(0, .ref (pl 15)), (1, .ref (pl (60 + 2 * j))), (2, .int (iI x)), (3, .int (iI e))] [.int (iI x), .ref (pl 6)] _ _ _ _
  refine pm_i_callv (k := (pl 6)) (T2 := pm_mm72) pm_a85_5 rfl rfl rfl (cg_6 hW) ⟨Nat.le_of_ble_eq_true rfl, Nat.le_of_ble_eq_true rfl, rfl, by decide +kernel⟩ ?_
  show pm_E none _ _ 0 [(0, .ref (pl 6)), (1, .int (iI x))] [] _ _ _ _
  refine C_endOf hW ⟨by omega, by omega⟩ ?_
  rw [shE_y (by omega) (by omega), hb]
  show pm_E _ _ _ 8 [(0, .ref (pl 15)), (1, .ref (pl (60 + 2 * j))), (2, .int (iI x)), (3, .int (iI e))] [.int (iI b)] _ _ _ _
  refine pm_e_sim pm_a85_8 rfl ?_
  show pm_E _ _ _ 10 [(0, .ref (pl 15)), (1, .ref (pl (60 + 2 * j))), (2, .int (iI x)), (3, .int (iI e)), (4, .int (iI b))] [] _ _ _ _
  refine pm_e_sim pm_a85_10 rfl ?_
  show pm_E _ _ _ 11 [(0, .ref (pl 15)), (1, .ref (pl (60 + 2 * j))), (2, .int (iI x)), (3, .int (iI e)), (4, .int (iI b))] [.ref (pl 15)] _ _ _ _
  refine pm_i_get pm_a85_11 rfl (cg_15 hW) rfl ?_
  show pm_E _ _ _ 14 [(0, .ref (pl 15)), (1, .ref (pl (60 + 2 * j))), (2, .int (iI x)), (3, .int (iI e)), (4, .int (iI b))] [.ref (pl 6)] _ _ _ _
  refine pm_e_sim pm_a85_14 rfl ?_
  show pm_E _ _ _ 16 [(0, .ref (pl 15)), (1, .ref (pl (60 + 2 * j))), (2, .int (iI x)), (3, .int (iI e)), (4, .int (iI b))] [.int (iI b), .ref (pl 6)] _ _ _ _
  refine pm_i_callv (k := (pl 6)) (T2 := pm_mm72) pm_a85_16 rfl rfl rfl (cg_6 hW) ⟨Nat.le_of_ble_eq_true rfl, Nat.le_of_ble_eq_true rfl, rfl, by decide +kernel⟩ ?_
  show pm_E none _ _ 0 [(0, .ref (pl 6)), (1, .int (iI b))] [] _ _ _ _
  refine C_endOf hW ⟨by omega, by omega⟩ ?_
  rw [shE_y (by omega) (by omega), hc]
  show pm_E _ _ _ 19 [(0, .ref (pl 15)), (1, .ref (pl (60 + 2 * j))), (2, .int (iI x)), (3, .int (iI e)), (4, .int (iI b))] [.int (iI cc)] _ _ _ _
  refine pm_e_sim pm_a85_19 rfl ?_
  show pm_E _ _ _ 21 [(0, .ref (pl 15)), (1, .ref (pl (60 + 2 * j))), (2, .int (iI x)), (3, .int (iI e)), (4, .int (iI b)), (5, .int (iI cc))] [] _ _ _ _
  refine pm_e_sim pm_a85_21 rfl ?_
  show pm_E _ _ _ 22 [(0, .ref (pl 15)), (1, .ref (pl (60 + 2 * j))), (2, .int (iI x)), (3, .int (iI e)), (4, .int (iI b)), (5, .int (iI cc))] [.ref (pl 15)] _ _ _ _
  refine pm_i_get pm_a85_22 rfl (cg_15 hW) rfl ?_
  show pm_E _ _ _ 25 [(0, .ref (pl 15)), (1, .ref (pl (60 + 2 * j))), (2, .int (iI x)), (3, .int (iI e)), (4, .int (iI b)), (5, .int (iI cc))] [.ref (pl (60 + 2 * 1))] _ _ _ _
  refine pm_e_sim pm_a85_25 rfl ?_
  refine pm_e_top (y := iI 0) (by decide +kernel) ?_
  show pm_E _ _ _ 26 [(0, .ref (pl 15)), (1, .ref (pl (60 + 2 * j))), (2, .int (iI x)), (3, .int (iI e)), (4, .int (iI b)), (5, .int (iI cc))] [.int (iI 0), .ref (pl (60 + 2 * 1))] _ _ _ _
  refine pm_i_callv (k := (pl (60 + 2 * 1))) (T2 := pm_mm40) pm_a85_26 rfl rfl rfl (cg_o (cj1 hW)) ⟨Nat.le_of_ble_eq_true rfl, Nat.le_of_ble_eq_true rfl, rfl, by decide +kernel⟩ ?_
  show pm_E none _ _ 0 [(0, .ref (pl (60 + 2 * 1))), (1, .int (iI 0))] [] _ _ _ _
  refine C_put hW (cj1 hW) (l := l) hl (by decide) (fun y1 hy1 => ?_)
  show pm_E _ _ _ 29 [(0, .ref (pl 15)), (1, .ref (pl (60 + 2 * j))), (2, .int (iI x)), (3, .int (iI e)), (4, .int (iI b)), (5, .int (iI cc))] [] _ _ _ _
  refine pm_e_sim pm_a85_29 rfl ?_
  show pm_E _ _ _ 30 [(0, .ref (pl 15)), (1, .ref (pl (60 + 2 * j))), (2, .int (iI x)), (3, .int (iI e)), (4, .int (iI b)), (5, .int (iI cc))] [.ref (pl 15)] _ _ _ _
  refine pm_i_get pm_a85_30 rfl (cg_15 hW) rfl ?_
  show pm_E _ _ _ 33 [(0, .ref (pl 15)), (1, .ref (pl (60 + 2 * j))), (2, .int (iI x)), (3, .int (iI e)), (4, .int (iI b)), (5, .int (iI cc))] [.ref (pl (60 + 2 * 1))] _ _ _ _
  refine pm_e_sim pm_a85_33 rfl ?_
  refine pm_e_top (y := iI 0) (by decide +kernel) ?_
  show pm_E _ _ _ 34 [(0, .ref (pl 15)), (1, .ref (pl (60 + 2 * j))), (2, .int (iI x)), (3, .int (iI e)), (4, .int (iI b)), (5, .int (iI cc))] [.int (iI 0), .ref (pl (60 + 2 * 1))] _ _ _ _
  refine pm_i_callv (k := (pl (60 + 2 * 1))) (T2 := pm_mm40) pm_a85_34 rfl rfl rfl (cg_o (cj1 hW)) ⟨Nat.le_of_ble_eq_true rfl, Nat.le_of_ble_eq_true rfl, rfl, by decide +kernel⟩ ?_
  show pm_E none _ _ 0 [(0, .ref (pl (60 + 2 * 1))), (1, .int (iI 0))] [] _ _ _ _
  refine C_put hW (cj1 hW) (l := (l ++ [0])) (by rw [updC_at]; exact hy1) (by decide) (fun y2 hy2 => ?_)
  rw [updC_s]
  show pm_E _ _ _ 37 [(0, .ref (pl 15)), (1, .ref (pl (60 + 2 * j))), (2, .int (iI x)), (3, .int (iI e)), (4, .int (iI b)), (5, .int (iI cc))] [] _ _ _ _
  refine pm_e_sim pm_a85_37 rfl ?_
  show pm_E _ _ _ 38 [(0, .ref (pl 15)), (1, .ref (pl (60 + 2 * j))), (2, .int (iI x)), (3, .int (iI e)), (4, .int (iI b)), (5, .int (iI cc))] [.ref (pl 15)] _ _ _ _
  refine pm_i_get pm_a85_38 rfl (cg_15 hW) rfl ?_
  show pm_E _ _ _ 41 [(0, .ref (pl 15)), (1, .ref (pl (60 + 2 * j))), (2, .int (iI x)), (3, .int (iI e)), (4, .int (iI b)), (5, .int (iI cc))] [.ref (pl (60 + 2 * 1))] _ _ _ _
  refine pm_e_sim pm_a85_41 rfl ?_
  show pm_E _ _ _ 42 [(0, .ref (pl 15)), (1, .ref (pl (60 + 2 * j))), (2, .int (iI x)), (3, .int (iI e)), (4, .int (iI b)), (5, .int (iI cc))] [.ref (pl (60 + 2 * j)), .ref (pl (60 + 2 * 1))] _ _ _ _
  refine pm_e_sim pm_a85_42 rfl ?_
  show pm_E _ _ _ 43 [(0, .ref (pl 15)), (1, .ref (pl (60 + 2 * j))), (2, .int (iI x)), (3, .int (iI e)), (4, .int (iI b)), (5, .int (iI cc))] [.int (iI x), .ref (pl (60 + 2 * j)), .ref (pl (60 + 2 * 1))] _ _ _ _
  refine pm_e_sim pm_a85_43 rfl ?_
  show pm_E _ _ _ 45 [(0, .ref (pl 15)), (1, .ref (pl (60 + 2 * j))), (2, .int (iI x)), (3, .int (iI e)), (4, .int (iI b)), (5, .int (iI cc))] [.int (iI b), .int (iI x), .ref (pl (60 + 2 * j)), .ref (pl (60 + 2 * 1))] _ _ _ _
  refine pm_i_callv (k := (pl (60 + 2 * 1))) (T2 := pm_mm59) pm_a85_45 rfl rfl rfl (cg_o (cj1 hW)) ⟨Nat.le_of_ble_eq_true rfl, Nat.le_of_ble_eq_true rfl, rfl, by decide +kernel⟩ ?_
  show pm_E none _ _ 0 [(0, .ref (pl (60 + 2 * 1))), (1, .ref (pl (60 + 2 * j))), (2, .int (iI x)), (3, .int (iI b))] [] _ _ _ _
  refine C_putPart hW (cj1 hW) hj (y := c j) (l := ((l ++ [0]) ++ [0])) (updC_n hj1) hok (by rw [updC_at]; exact hy2) (by omega) (by omega) (by omega) (fun y3 hy3 => ?_)
  rw [updC_s]
  show pm_E _ _ _ 48 [(0, .ref (pl 15)), (1, .ref (pl (60 + 2 * j))), (2, .int (iI x)), (3, .int (iI e)), (4, .int (iI b)), (5, .int (iI cc))] [] _ _ _ _
  refine pm_e_sim pm_a85_48 rfl ?_
  show pm_E _ _ _ 49 [(0, .ref (pl 15)), (1, .ref (pl (60 + 2 * j))), (2, .int (iI x)), (3, .int (iI e)), (4, .int (iI b)), (5, .int (iI cc))] [.ref (pl 15)] _ _ _ _
  refine pm_i_get pm_a85_49 rfl (cg_15 hW) rfl ?_
  show pm_E _ _ _ 52 [(0, .ref (pl 15)), (1, .ref (pl (60 + 2 * j))), (2, .int (iI x)), (3, .int (iI e)), (4, .int (iI b)), (5, .int (iI cc))] [.ref (pl (60 + 2 * 1))] _ _ _ _
  refine pm_e_sim pm_a85_52 rfl ?_
  show pm_E _ _ _ 53 [(0, .ref (pl 15)), (1, .ref (pl (60 + 2 * j))), (2, .int (iI x)), (3, .int (iI e)), (4, .int (iI b)), (5, .int (iI cc))] [.ref (pl (60 + 2 * j)), .ref (pl (60 + 2 * 1))] _ _ _ _
  refine pm_e_sim pm_a85_53 rfl ?_
  show pm_E _ _ _ 55 [(0, .ref (pl 15)), (1, .ref (pl (60 + 2 * j))), (2, .int (iI x)), (3, .int (iI e)), (4, .int (iI b)), (5, .int (iI cc))] [.int (iI cc), .ref (pl (60 + 2 * j)), .ref (pl (60 + 2 * 1))] _ _ _ _
  refine pm_e_sim pm_a85_55 rfl ?_
  show pm_E _ _ _ 56 [(0, .ref (pl 15)), (1, .ref (pl (60 + 2 * j))), (2, .int (iI x)), (3, .int (iI e)), (4, .int (iI b)), (5, .int (iI cc))] [.int (iI e), .int (iI cc), .ref (pl (60 + 2 * j)), .ref (pl (60 + 2 * 1))] _ _ _ _
  refine pm_i_callv (k := (pl (60 + 2 * 1))) (T2 := pm_mm59) pm_a85_56 rfl rfl rfl (cg_o (cj1 hW)) ⟨Nat.le_of_ble_eq_true rfl, Nat.le_of_ble_eq_true rfl, rfl, by decide +kernel⟩ ?_
  show pm_E none _ _ 0 [(0, .ref (pl (60 + 2 * 1))), (1, .ref (pl (60 + 2 * j))), (2, .int (iI cc)), (3, .int (iI e))] [] _ _ _ _
  refine C_putPart hW (cj1 hW) hj (y := c j) (l := (((l ++ [0]) ++ [0]) ++ rg (c j).2.2 (b - x).toNat x)) (updC_n hj1) hok (by rw [updC_at]; exact hy3) (by omega) (by omega) (by omega) (fun y4 hy4 => ?_)
  rw [updC_s]
  show pm_E _ _ _ 59 [(0, .ref (pl 15)), (1, .ref (pl (60 + 2 * j))), (2, .int (iI x)), (3, .int (iI e)), (4, .int (iI b)), (5, .int (iI cc))] [] _ _ _ _
  refine pm_e_sim pm_a85_59 rfl ?_
  show pm_E _ _ _ 60 [(0, .ref (pl 15)), (1, .ref (pl (60 + 2 * j))), (2, .int (iI x)), (3, .int (iI e)), (4, .int (iI b)), (5, .int (iI cc))] [.ref (pl 15)] _ _ _ _
  refine pm_i_get pm_a85_60 rfl (cg_15 hW) rfl ?_
  show pm_E _ _ _ 63 [(0, .ref (pl 15)), (1, .ref (pl (60 + 2 * j))), (2, .int (iI x)), (3, .int (iI e)), (4, .int (iI b)), (5, .int (iI cc))] [.ref (pl (60 + 2 * 1))] _ _ _ _
  refine pm_e_sim pm_a85_63 rfl ?_
  refine pm_e_top (y := iI 0) (by decide +kernel) ?_
  show pm_E _ _ _ 64 [(0, .ref (pl 15)), (1, .ref (pl (60 + 2 * j))), (2, .int (iI x)), (3, .int (iI e)), (4, .int (iI b)), (5, .int (iI cc))] [.int (iI 0), .ref (pl (60 + 2 * 1))] _ _ _ _
  refine pm_i_callv (k := (pl (60 + 2 * 1))) (T2 := pm_mm40) pm_a85_64 rfl rfl rfl (cg_o (cj1 hW)) ⟨Nat.le_of_ble_eq_true rfl, Nat.le_of_ble_eq_true rfl, rfl, by decide +kernel⟩ ?_
  show pm_E none _ _ 0 [(0, .ref (pl (60 + 2 * 1))), (1, .int (iI 0))] [] _ _ _ _
  refine C_put hW (cj1 hW) (l := ((((l ++ [0]) ++ [0]) ++ rg (c j).2.2 (b - x).toNat x) ++ rg (c j).2.2 (e - cc).toNat cc)) (by rw [updC_at]; exact hy4) (by decide) (fun y5 hy5 => ?_)
  rw [updC_s]
  show pm_E _ _ _ 67 [(0, .ref (pl 15)), (1, .ref (pl (60 + 2 * j))), (2, .int (iI x)), (3, .int (iI e)), (4, .int (iI b)), (5, .int (iI cc))] [] _ _ _ _
  refine pm_e_sim pm_a85_67 rfl ?_
  show pm_E _ _ _ 68 [(0, .ref (pl 15)), (1, .ref (pl (60 + 2 * j))), (2, .int (iI x)), (3, .int (iI e)), (4, .int (iI b)), (5, .int (iI cc))] [.ref (pl 15)] _ _ _ _
  refine pm_i_get pm_a85_68 rfl (cg_15 hW) rfl ?_
  show pm_E _ _ _ 71 [(0, .ref (pl 15)), (1, .ref (pl (60 + 2 * j))), (2, .int (iI x)), (3, .int (iI e)), (4, .int (iI b)), (5, .int (iI cc))] [.ref (pl (60 + 2 * 1))] _ _ _ _
  refine pm_e_sim pm_a85_71 rfl ?_
  show pm_E _ _ _ 72 [(0, .ref (pl 15)), (1, .ref (pl (60 + 2 * j))), (2, .int (iI x)), (3, .int (iI e)), (4, .int (iI b)), (5, .int (iI cc))] [.ref (pl (60 + 2 * j)), .ref (pl (60 + 2 * 1))] _ _ _ _
  refine pm_e_sim pm_a85_72 rfl ?_
  show pm_E _ _ _ 74 [(0, .ref (pl 15)), (1, .ref (pl (60 + 2 * j))), (2, .int (iI x)), (3, .int (iI e)), (4, .int (iI b)), (5, .int (iI cc))] [.int (iI b), .ref (pl (60 + 2 * j)), .ref (pl (60 + 2 * 1))] _ _ _ _
  refine pm_e_sim pm_a85_74 rfl ?_
  show pm_E _ _ _ 76 [(0, .ref (pl 15)), (1, .ref (pl (60 + 2 * j))), (2, .int (iI x)), (3, .int (iI e)), (4, .int (iI b)), (5, .int (iI cc))] [.int (iI cc), .int (iI b), .ref (pl (60 + 2 * j)), .ref (pl (60 + 2 * 1))] _ _ _ _
  refine pm_i_callv (k := (pl (60 + 2 * 1))) (T2 := pm_mm59) pm_a85_76 rfl rfl rfl (cg_o (cj1 hW)) ⟨Nat.le_of_ble_eq_true rfl, Nat.le_of_ble_eq_true rfl, rfl, by decide +kernel⟩ ?_
  show pm_E none _ _ 0 [(0, .ref (pl (60 + 2 * 1))), (1, .ref (pl (60 + 2 * j))), (2, .int (iI b)), (3, .int (iI cc))] [] _ _ _ _
  refine C_putPart hW (cj1 hW) hj (y := c j) (l := (((((l ++ [0]) ++ [0]) ++ rg (c j).2.2 (b - x).toNat x) ++ rg (c j).2.2 (e - cc).toNat cc) ++ [0])) (updC_n hj1) hok (by rw [updC_at]; exact hy5) (by omega) (by omega) (by omega) (fun y6 hy6 => ?_)
  rw [updC_s]
  show pm_E _ _ _ 79 [(0, .ref (pl 15)), (1, .ref (pl (60 + 2 * j))), (2, .int (iI x)), (3, .int (iI e)), (4, .int (iI b)), (5, .int (iI cc))] [] _ _ _ _
  refine pm_e_sim pm_a85_79 rfl ?_
  show pm_E _ _ _ 80 [(0, .ref (pl 15)), (1, .ref (pl (60 + 2 * j))), (2, .int (iI x)), (3, .int (iI e)), (4, .int (iI b)), (5, .int (iI cc))] [.ref (pl 15)] _ _ _ _
  refine pm_i_get pm_a85_80 rfl (cg_15 hW) rfl ?_
  show pm_E _ _ _ 83 [(0, .ref (pl 15)), (1, .ref (pl (60 + 2 * j))), (2, .int (iI x)), (3, .int (iI e)), (4, .int (iI b)), (5, .int (iI cc))] [.ref (pl (60 + 2 * 1))] _ _ _ _
  refine pm_e_sim pm_a85_83 rfl ?_
  show pm_E _ _ _ 84 [(0, .ref (pl 15)), (1, .ref (pl (60 + 2 * j))), (2, .int (iI x)), (3, .int (iI e)), (4, .int (iI b)), (5, .int (iI cc))] [.ref (pl (60 + 2 * j)), .ref (pl (60 + 2 * 1))] _ _ _ _
  refine pm_e_sim pm_a85_84 rfl ?_
  show pm_E _ _ _ 86 [(0, .ref (pl 15)), (1, .ref (pl (60 + 2 * j))), (2, .int (iI x)), (3, .int (iI e)), (4, .int (iI b)), (5, .int (iI cc))] [.int (iI cc), .ref (pl (60 + 2 * j)), .ref (pl (60 + 2 * 1))] _ _ _ _
  refine pm_e_sim pm_a85_86 rfl ?_
  show pm_E _ _ _ 87 [(0, .ref (pl 15)), (1, .ref (pl (60 + 2 * j))), (2, .int (iI x)), (3, .int (iI e)), (4, .int (iI b)), (5, .int (iI cc))] [.int (iI e), .int (iI cc), .ref (pl (60 + 2 * j)), .ref (pl (60 + 2 * 1))] _ _ _ _
  refine pm_i_callv (k := (pl (60 + 2 * 1))) (T2 := pm_mm59) pm_a85_87 rfl rfl rfl (cg_o (cj1 hW)) ⟨Nat.le_of_ble_eq_true rfl, Nat.le_of_ble_eq_true rfl, rfl, by decide +kernel⟩ ?_
  show pm_E none _ _ 0 [(0, .ref (pl (60 + 2 * 1))), (1, .ref (pl (60 + 2 * j))), (2, .int (iI cc)), (3, .int (iI e))] [] _ _ _ _
  refine C_putPart hW (cj1 hW) hj (y := c j) (l := ((((((l ++ [0]) ++ [0]) ++ rg (c j).2.2 (b - x).toNat x) ++ rg (c j).2.2 (e - cc).toNat cc) ++ [0]) ++ rg (c j).2.2 (cc - b).toNat b)) (updC_n hj1) hok (by rw [updC_at]; exact hy6) (by omega) (by omega) (by omega) (fun y7 hy7 => ?_)
  rw [updC_s]
  show pm_E _ _ _ 90 [(0, .ref (pl 15)), (1, .ref (pl (60 + 2 * j))), (2, .int (iI x)), (3, .int (iI e)), (4, .int (iI b)), (5, .int (iI cc))] [] _ _ _ _
  refine pm_e_ret pm_a85_90 rfl rfl rfl rfl rfl rfl rfl rfl ?_
  exact k y7 hy7
