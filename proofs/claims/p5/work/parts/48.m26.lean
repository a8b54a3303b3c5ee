/-! THE REFERENCE: beta, the whole -/
set_option maxHeartbeats 4000000 in
set_option maxRecDepth 100000 in
theorem M_beta {d : Nat} {A B : List va_E} {s : Nat → Int} {vl : Int64} {a : Nat → Int → Int} {nm : Nat → Int64} {Q : Option Value → List va_E → Nat → Nat → Prop} {p u e k1 k2 n : Int} {D P q F : Int → Int} {f1 f2 : Nat} (hA : A.length = 18) (hr : ∀ j, in32 (a 4 j)) (t1 : tm (a 4) f1 k1 (p + 2) u) (t2 : tm (a 4) f2 k2 u e) (hp0 : 0 ≤ p) (he : e ≤ 11900) (hb : ∀ j, p + 2 ≤ j → j < e → 0 ≤ a 4 j ∧ a 4 j ≤ 100000) (hq : ∀ j, in32 (q j)) (hn0 : 0 ≤ n) (hn1 : n ≤ 12000) (k : ∀ D1 P1 q1 N, dp (a 4) D1 f1 0 (p + 2) u → dp (a 4) q1 f2 0 u e → (∀ j, in32 (q1 j)) → N = n + ((bet (a 4) D1 q1 u (e - u).toNat (u - (p + 2)).toNat (p + 2)).length : Int) → Q none (mh A (updS s 28 N) vl (u4 a D1 P1 q1 (laL F n (bet (a 4) D1 q1 u (e - u).toNat (u - (p + 2)).toNat (p + 2)))) nm B) 0 0) : pm_E none (d + 2) pm_mm188 0 [(0, .ref 18), (1, .int (iI p))] [] (mh A (updS s 28 n) vl (u4 a D P q F) nm B) 0 0 Q := by
  have l1 := tm_lt t1
  have l2 := tm_lt t2
  refine pm_e_sim pm_a188_0 rfl ?_
  show pm_E _ _ _ 1 [(0, .ref 18), (1, .int (iI p))] [.int (iI p)] _ _ _ _
  refine pm_e_sim pm_a188_1 rfl ?_
  refine pm_e_top (y := iI 2) (by decide +kernel) ?_
  show pm_E _ _ _ 2 [(0, .ref 18), (1, .int (iI p))] [.int (iI 2), .int (iI p)] _ _ _ _
  refine pm_e_sim pm_a188_2 rfl ?_
  refine pm_e_top (y := iI (p + 2)) (iI_add _ _) ?_
  show pm_E _ _ _ 3 [(0, .ref 18), (1, .int (iI p))] [.int (iI (p + 2))] _ _ _ _
  refine pm_e_sim pm_a188_3 rfl ?_
  show pm_E _ _ _ 4 [(0, .ref 18), (1, .int (iI p)), (2, .int (iI (p + 2)))] [] _ _ _ _
  refine pm_e_sim pm_a188_4 rfl ?_
  show pm_E _ _ _ 5 [(0, .ref 18), (1, .int (iI p)), (2, .int (iI (p + 2)))] [.ref 18] _ _ _ _
  refine pm_e_sim pm_a188_5 rfl ?_
  show pm_E _ _ _ 6 [(0, .ref 18), (1, .int (iI p)), (2, .int (iI (p + 2)))] [.int (iI (p + 2)), .ref 18] _ _ _ _
  refine pm_i_callv (k := 18) (T2 := pm_mm170) pm_a188_6 rfl rfl rfl (mh_get (j := 0) hA rfl) ⟨Nat.le_of_ble_eq_true rfl, Nat.le_of_ble_eq_true rfl, rfl, by decide +kernel⟩ ?_
  show pm_E none _ _ 0 [(0, .ref 18), (1, .int (iI (p + 2)))] [] _ _ _ _
  refine M_endT (a := u4 a D P q F) hA hr t1 (by omega) (by omega) ?_
  show pm_E _ _ _ 9 [(0, .ref 18), (1, .int (iI p)), (2, .int (iI (p + 2)))] [.int (iI u)] _ _ _ _
  refine pm_e_sim pm_a188_9 rfl ?_
  show pm_E _ _ _ 10 [(0, .ref 18), (1, .int (iI p)), (2, .int (iI (p + 2))), (3, .int (iI u))] [] _ _ _ _
  refine pm_e_sim pm_a188_10 rfl ?_
  show pm_E _ _ _ 11 [(0, .ref 18), (1, .int (iI p)), (2, .int (iI (p + 2))), (3, .int (iI u))] [.ref 18] _ _ _ _
  refine pm_e_sim pm_a188_11 rfl ?_
  show pm_E _ _ _ 12 [(0, .ref 18), (1, .int (iI p)), (2, .int (iI (p + 2))), (3, .int (iI u))] [.int (iI u), .ref 18] _ _ _ _
  refine pm_i_callv (k := 18) (T2 := pm_mm170) pm_a188_12 rfl rfl rfl (mh_get (j := 0) hA rfl) ⟨Nat.le_of_ble_eq_true rfl, Nat.le_of_ble_eq_true rfl, rfl, by decide +kernel⟩ ?_
  show pm_E none _ _ 0 [(0, .ref 18), (1, .int (iI u))] [] _ _ _ _
  refine M_endT (a := u4 a D P q F) hA hr t2 (by omega) (by omega) ?_
  show pm_E _ _ _ 15 [(0, .ref 18), (1, .int (iI p)), (2, .int (iI (p + 2))), (3, .int (iI u))] [.int (iI e)] _ _ _ _
  refine pm_e_sim pm_a188_15 rfl ?_
  show pm_E _ _ _ 17 [(0, .ref 18), (1, .int (iI p)), (2, .int (iI (p + 2))), (3, .int (iI u)), (4, .int (iI e))] [] _ _ _ _
  refine pm_e_sim pm_a188_17 rfl ?_
  show pm_E _ _ _ 18 [(0, .ref 18), (1, .int (iI p)), (2, .int (iI (p + 2))), (3, .int (iI u)), (4, .int (iI e))] [.ref 18] _ _ _ _
  refine pm_e_sim pm_a188_18 rfl ?_
  show pm_E _ _ _ 19 [(0, .ref 18), (1, .int (iI p)), (2, .int (iI (p + 2))), (3, .int (iI u)), (4, .int (iI e))] [.int (iI u), .ref 18] _ _ _ _
  refine pm_i_callv (k := 18) (T2 := pm_mm171) pm_a188_19 rfl rfl rfl (mh_get (j := 0) hA rfl) ⟨Nat.le_of_ble_eq_true rfl, Nat.le_of_ble_eq_true rfl, rfl, by decide +kernel⟩ ?_
  show pm_E none _ _ 0 [(0, .ref 18), (1, .int (iI u))] [] _ _ _ _
  refine M_depT (a := u4 a D P q F) hA hr t2 (by omega) (by omega) (fun P0 D0 _ dD0 => ?_)
  refine pm_e_heap (show _ = mh A (updS s 28 n) vl (u4 a D0 P0 q F) nm B from by rw [u4_5, u4_6]) ?_
  replace dD0 : dp (a 4) D0 f2 0 u e := dD0
  show pm_E _ _ _ 22 [(0, .ref 18), (1, .int (iI p)), (2, .int (iI (p + 2))), (3, .int (iI u)), (4, .int (iI e))] [] _ _ _ _
  refine pm_e_sim pm_a188_22 rfl ?_
  show pm_E _ _ _ 23 [(0, .ref 18), (1, .int (iI p)), (2, .int (iI (p + 2))), (3, .int (iI u)), (4, .int (iI e))] [.int (iI u)] _ _ _ _
  refine pm_e_sim pm_a188_23 rfl ?_
  show pm_E _ _ _ 25 [(0, .ref 18), (1, .int (iI p)), (2, .int (iI (p + 2))), (3, .int (iI u)), (4, .int (iI e)), (5, .int (iI u))] [] _ _ _ _
  refine M_beta_c hA (by omega) he (e - u).toNat u q (by omega) (by omega) (fun j hj => ?_)
  have i0 := dp_in dD0
  have hq1 : ∀ j, in32 (cpI q D0 0 u e j) := by
    intro j
    unfold cpI
    split
    · rename_i hj2; have := i0 j (by omega) (by omega); rw [show (0 : Int) + j = j by omega]; exact ⟨by omega, by omega⟩
    · exact hq j
  have dq1 : dp (a 4) (cpI q D0 0 u e) f2 0 u e := dp_congr (D := D0) (fun j z y => by unfold cpI; rw [if_pos ⟨z, y⟩, show (0 : Int) + j = j by omega]) dD0
  generalize cpI q D0 0 u e = q1 at hq1 dq1 ⊢
  refine pm_e_sim pm_a188_52 rfl ?_
  show pm_E _ _ _ 53 [(0, .ref 18), (1, .int (iI p)), (2, .int (iI (p + 2))), (3, .int (iI u)), (4, .int (iI e)), (5, .int (iI j))] [.ref 18] _ _ _ _
  refine pm_e_sim pm_a188_53 rfl ?_
  show pm_E _ _ _ 54 [(0, .ref 18), (1, .int (iI p)), (2, .int (iI (p + 2))), (3, .int (iI u)), (4, .int (iI e)), (5, .int (iI j))] [.int (iI (p + 2)), .ref 18] _ _ _ _
  refine pm_i_callv (k := 18) (T2 := pm_mm171) pm_a188_54 rfl rfl rfl (mh_get (j := 0) hA rfl) ⟨Nat.le_of_ble_eq_true rfl, Nat.le_of_ble_eq_true rfl, rfl, by decide +kernel⟩ ?_
  show pm_E none _ _ 0 [(0, .ref 18), (1, .int (iI (p + 2)))] [] _ _ _ _
  refine M_depT (a := u4 a D0 P0 q1 F) hA hr t1 (by omega) (by omega) (fun P1 D1 _ dD1 => ?_)
  refine pm_e_heap (show _ = mh A (updS s 28 n) vl (u4 a D1 P1 q1 F) nm B from by rw [u4_5, u4_6]) ?_
  replace dD1 : dp (a 4) D1 f1 0 (p + 2) u := dD1
  have i1 := dp_in dD1
  obtain ⟨d0, d1⟩ := i1 (p + 2) (by omega) (by omega)
  obtain ⟨b0, b1⟩ := hb (p + 2) (by omega) (by omega)
  have k := k D1 P1 q1
  obtain ⟨f, hf⟩ : ∃ f : Nat, (u - (p + 2)).toNat = f + 1 := ⟨(u - (p + 2)).toNat - 1, by omega⟩
  rw [hf] at k
  show pm_E _ _ _ 57 [(0, .ref 18), (1, .int (iI p)), (2, .int (iI (p + 2))), (3, .int (iI u)), (4, .int (iI e)), (5, .int (iI j))] [] _ _ _ _
  refine pm_e_sim pm_a188_57 rfl ?_
  show pm_E _ _ _ 58 [(0, .ref 18), (1, .int (iI p)), (2, .int (iI (p + 2))), (3, .int (iI u)), (4, .int (iI e)), (5, .int (iI j))] [.int (iI (p + 2))] _ _ _ _
  refine pm_e_sim pm_a188_58 rfl ?_
  show pm_E _ _ _ 60 [(0, .ref 18), (1, .int (iI p)), (2, .int (iI (p + 2))), (3, .int (iI u)), (4, .int (iI e)), (5, .int (iI (p + 2)))] [] _ _ _ _
  refine pm_e_sim pm_a188_60 rfl ?_
  show pm_E _ _ _ 62 [(0, .ref 18), (1, .int (iI p)), (2, .int (iI (p + 2))), (3, .int (iI u)), (4, .int (iI e)), (5, .int (iI (p + 2)))] [.int (iI (p + 2))] _ _ _ _
  refine pm_e_sim pm_a188_62 rfl ?_
  show pm_E _ _ _ 63 [(0, .ref 18), (1, .int (iI p)), (2, .int (iI (p + 2))), (3, .int (iI u)), (4, .int (iI e)), (5, .int (iI (p + 2)))] [.int (iI u), .int (iI (p + 2))] _ _ _ _
  refine pm_c_ge (t := 148) pm_a188_63 rfl ⟨by omega, by omega⟩ ⟨by omega, by omega⟩ (fun h_101 => ?_) (fun h_101 => ?_)
  · skip
    exfalso; omega
  · skip
    show pm_E _ _ _ 66 [(0, .ref 18), (1, .int (iI p)), (2, .int (iI (p + 2))), (3, .int (iI u)), (4, .int (iI e)), (5, .int (iI (p + 2)))] [] _ _ _ _
    refine pm_e_sim pm_a188_66 rfl ?_
    show pm_E _ _ _ 67 [(0, .ref 18), (1, .int (iI p)), (2, .int (iI (p + 2))), (3, .int (iI u)), (4, .int (iI e)), (5, .int (iI (p + 2)))] [.ref 18] _ _ _ _
    refine pm_i_get pm_a188_67 rfl (mh_get (j := 0) hA rfl) rfl ?_
    show pm_E _ _ _ 70 [(0, .ref 18), (1, .int (iI p)), (2, .int (iI (p + 2))), (3, .int (iI u)), (4, .int (iI e)), (5, .int (iI (p + 2)))] [.ref 22] _ _ _ _
    refine pm_e_sim pm_a188_70 rfl ?_
    show pm_E _ _ _ 72 [(0, .ref 18), (1, .int (iI p)), (2, .int (iI (p + 2))), (3, .int (iI u)), (4, .int (iI e)), (5, .int (iI (p + 2)))] [.int (iI (p + 2)), .ref 22] _ _ _ _
    refine pm_i_ald pm_a188_72 (mh_get (j := 4) hA rfl) (by omega) (by omega) ⟨by omega, by omega⟩ ?_
    show pm_E _ _ _ 73 [(0, .ref 18), (1, .int (iI p)), (2, .int (iI (p + 2))), (3, .int (iI u)), (4, .int (iI e)), (5, .int (iI (p + 2)))] [.int (iI ((a 4) (p + 2)))] _ _ _ _
    refine pm_e_sim pm_a188_73 rfl ?_
    refine pm_e_top (y := iI 10) (by decide +kernel) ?_
    show pm_E _ _ _ 75 [(0, .ref 18), (1, .int (iI p)), (2, .int (iI (p + 2))), (3, .int (iI u)), (4, .int (iI e)), (5, .int (iI (p + 2)))] [.int (iI 10), .int (iI ((a 4) (p + 2)))] _ _ _ _
    refine pm_e_sim pm_a188_75 rfl ?_
    refine pm_e_top (y := iI ((a 4) (p + 2) - 10)) (iI_sub _ _) ?_
    show pm_E _ _ _ 76 [(0, .ref 18), (1, .int (iI p)), (2, .int (iI (p + 2))), (3, .int (iI u)), (4, .int (iI e)), (5, .int (iI (p + 2)))] [.int (iI ((a 4) (p + 2) - 10))] _ _ _ _
    refine pm_e_sim pm_a188_76 rfl ?_
    show pm_E _ _ _ 78 [(0, .ref 18), (1, .int (iI p)), (2, .int (iI (p + 2))), (3, .int (iI u)), (4, .int (iI e)), (5, .int (iI (p + 2))), (6, .int (iI ((a 4) (p + 2) - 10)))] [] _ _ _ _
    refine pm_e_sim pm_a188_78 rfl ?_
    show pm_E _ _ _ 80 [(0, .ref 18), (1, .int (iI p)), (2, .int (iI (p + 2))), (3, .int (iI u)), (4, .int (iI e)), (5, .int (iI (p + 2))), (6, .int (iI ((a 4) (p + 2) - 10)))] [.int (iI ((a 4) (p + 2) - 10))] _ _ _ _
    refine pm_e_sim pm_a188_80 rfl ?_
    show pm_E _ _ _ 81 [(0, .ref 18), (1, .int (iI p)), (2, .int (iI (p + 2))), (3, .int (iI u)), (4, .int (iI e)), (5, .int (iI (p + 2))), (6, .int (iI ((a 4) (p + 2) - 10)))] [.ref 18, .int (iI ((a 4) (p + 2) - 10))] _ _ _ _
    refine pm_i_get pm_a188_81 rfl (mh_get (j := 0) hA rfl) rfl ?_
    show pm_E _ _ _ 84 [(0, .ref 18), (1, .int (iI p)), (2, .int (iI (p + 2))), (3, .int (iI u)), (4, .int (iI e)), (5, .int (iI (p + 2))), (6, .int (iI ((a 4) (p + 2) - 10)))] [.ref 23, .int (iI ((a 4) (p + 2) - 10))] _ _ _ _
    refine pm_e_sim pm_a188_84 rfl ?_
    show pm_E _ _ _ 86 [(0, .ref 18), (1, .int (iI p)), (2, .int (iI (p + 2))), (3, .int (iI u)), (4, .int (iI e)), (5, .int (iI (p + 2))), (6, .int (iI ((a 4) (p + 2) - 10)))] [.int (iI (p + 2)), .ref 23, .int (iI ((a 4) (p + 2) - 10))] _ _ _ _
    refine pm_i_ald pm_a188_86 (mh_get (j := 5) hA rfl) (by omega) (by omega) ⟨by omega, by omega⟩ ?_
    show pm_E _ _ _ 87 [(0, .ref 18), (1, .int (iI p)), (2, .int (iI (p + 2))), (3, .int (iI u)), (4, .int (iI e)), (5, .int (iI (p + 2))), (6, .int (iI ((a 4) (p + 2) - 10)))] [.int (iI ((D1) (p + 2))), .int (iI ((a 4) (p + 2) - 10))] _ _ _ _
    refine pm_c_ne (t := 107) pm_a188_87 rfl ⟨by omega, by omega⟩ ⟨by omega, by omega⟩ (fun h_102 => ?_) (fun h_102 => ?_)
    · skip
      show pm_E _ _ _ 107 [(0, .ref 18), (1, .int (iI p)), (2, .int (iI (p + 2))), (3, .int (iI u)), (4, .int (iI e)), (5, .int (iI (p + 2))), (6, .int (iI ((a 4) (p + 2) - 10)))] [] _ _ _ _
      refine pm_e_sim pm_a188_107 rfl ?_
      show pm_E _ _ _ 108 [(0, .ref 18), (1, .int (iI p)), (2, .int (iI (p + 2))), (3, .int (iI u)), (4, .int (iI e)), (5, .int (iI (p + 2))), (6, .int (iI ((a 4) (p + 2) - 10)))] [.ref 18] _ _ _ _
      refine pm_e_sim pm_a188_108 rfl ?_
      show pm_E _ _ _ 110 [(0, .ref 18), (1, .int (iI p)), (2, .int (iI (p + 2))), (3, .int (iI u)), (4, .int (iI e)), (5, .int (iI (p + 2))), (6, .int (iI ((a 4) (p + 2) - 10)))] [.int (iI ((a 4) (p + 2) - 10)), .ref 18] _ _ _ _
      refine pm_e_sim pm_a188_110 rfl ?_
      show pm_E _ _ _ 111 [(0, .ref 18), (1, .int (iI p)), (2, .int (iI (p + 2))), (3, .int (iI u)), (4, .int (iI e)), (5, .int (iI (p + 2))), (6, .int (iI ((a 4) (p + 2) - 10)))] [.ref 18, .int (iI ((a 4) (p + 2) - 10)), .ref 18] _ _ _ _
      refine pm_i_get pm_a188_111 rfl (mh_get (j := 0) hA rfl) rfl ?_
      show pm_E _ _ _ 114 [(0, .ref 18), (1, .int (iI p)), (2, .int (iI (p + 2))), (3, .int (iI u)), (4, .int (iI e)), (5, .int (iI (p + 2))), (6, .int (iI ((a 4) (p + 2) - 10)))] [.ref 23, .int (iI ((a 4) (p + 2) - 10)), .ref 18] _ _ _ _
      refine pm_e_sim pm_a188_114 rfl ?_
      show pm_E _ _ _ 116 [(0, .ref 18), (1, .int (iI p)), (2, .int (iI (p + 2))), (3, .int (iI u)), (4, .int (iI e)), (5, .int (iI (p + 2))), (6, .int (iI ((a 4) (p + 2) - 10)))] [.int (iI (p + 2)), .ref 23, .int (iI ((a 4) (p + 2) - 10)), .ref 18] _ _ _ _
      refine pm_i_ald pm_a188_116 (mh_get (j := 5) hA rfl) (by omega) (by omega) ⟨by omega, by omega⟩ ?_
      show pm_E _ _ _ 117 [(0, .ref 18), (1, .int (iI p)), (2, .int (iI (p + 2))), (3, .int (iI u)), (4, .int (iI e)), (5, .int (iI (p + 2))), (6, .int (iI ((a 4) (p + 2) - 10)))] [.int (iI ((D1) (p + 2))), .int (iI ((a 4) (p + 2) - 10)), .ref 18] _ _ _ _
      refine pm_c_le (t := 132) pm_a188_117 rfl ⟨by omega, by omega⟩ ⟨by omega, by omega⟩ (fun h_103 => ?_) (fun h_103 => ?_)
      · skip
        show pm_E _ _ _ 132 [(0, .ref 18), (1, .int (iI p)), (2, .int (iI (p + 2))), (3, .int (iI u)), (4, .int (iI e)), (5, .int (iI (p + 2))), (6, .int (iI ((a 4) (p + 2) - 10)))] [.ref 18] _ _ _ _
        refine pm_e_sim pm_a188_132 rfl ?_
        show pm_E _ _ _ 133 [(0, .ref 18), (1, .int (iI p)), (2, .int (iI (p + 2))), (3, .int (iI u)), (4, .int (iI e)), (5, .int (iI (p + 2))), (6, .int (iI ((a 4) (p + 2) - 10)))] [.ref 18, .ref 18] _ _ _ _
        refine pm_i_get pm_a188_133 rfl (mh_get (j := 0) hA rfl) rfl ?_
        show pm_E _ _ _ 136 [(0, .ref 18), (1, .int (iI p)), (2, .int (iI (p + 2))), (3, .int (iI u)), (4, .int (iI e)), (5, .int (iI (p + 2))), (6, .int (iI ((a 4) (p + 2) - 10)))] [.ref 22, .ref 18] _ _ _ _
        refine pm_e_sim pm_a188_136 rfl ?_
        show pm_E _ _ _ 138 [(0, .ref 18), (1, .int (iI p)), (2, .int (iI (p + 2))), (3, .int (iI u)), (4, .int (iI e)), (5, .int (iI (p + 2))), (6, .int (iI ((a 4) (p + 2) - 10)))] [.int (iI (p + 2)), .ref 22, .ref 18] _ _ _ _
        refine pm_i_ald pm_a188_138 (mh_get (j := 4) hA rfl) (by omega) (by omega) ⟨by omega, by omega⟩ ?_
        show pm_E _ _ _ 139 [(0, .ref 18), (1, .int (iI p)), (2, .int (iI (p + 2))), (3, .int (iI u)), (4, .int (iI e)), (5, .int (iI (p + 2))), (6, .int (iI ((a 4) (p + 2) - 10)))] [.int (iI ((a 4) (p + 2))), .ref 18] _ _ _ _
        refine pm_i_callv (k := 18) (T2 := pm_mm185) pm_a188_139 rfl rfl rfl (mh_get (j := 0) hA rfl) ⟨Nat.le_of_ble_eq_true rfl, Nat.le_of_ble_eq_true rfl, rfl, by decide +kernel⟩ ?_
        show pm_E none _ _ 0 [(0, .ref 18), (1, .int (iI ((a 4) (p + 2))))] [] _ _ _ _
        refine M_addT (n := n) (F := F) hA (by omega) (by omega) ?_
        show pm_E _ _ _ 142 [(0, .ref 18), (1, .int (iI p)), (2, .int (iI (p + 2))), (3, .int (iI u)), (4, .int (iI e)), (5, .int (iI (p + 2))), (6, .int (iI ((a 4) (p + 2) - 10)))] [] _ _ _ _
        refine pm_e_inc (y := iI (p + 2 + 1)) pm_a188_142 rfl (iI_add _ _) (by decide +kernel) rfl ?_
        show pm_E _ _ _ 145 [(0, .ref 18), (1, .int (iI p)), (2, .int (iI (p + 2))), (3, .int (iI u)), (4, .int (iI e)), (5, .int (iI (p + 2 + 1))), (6, .int (iI ((a 4) (p + 2) - 10)))] [] _ _ _ _
        refine pm_e_goto pm_a188_145 rfl ?_
        show pm_E _ _ _ 60 [(0, .ref 18), (1, .int (iI p)), (2, .int (iI (p + 2))), (3, .int (iI u)), (4, .int (iI e)), (5, .int (iI (p + 2 + 1))), (6, .int (iI ((a 4) (p + 2) - 10)))] [] _ _ _ _
        have hp : bet (a 4) D1 q1 u (e - u).toNat (f + 1) (p + 2) = ([(a 4) (p + 2)]) ++ bet (a 4) D1 q1 u (e - u).toNat f (p + 2 + 1) := by
          show bpc _ _ _ _ _ _ ++ _ = _
          rw [bpc_3 (show (a 4) (p + 2) - 10 < D1 (p + 2) by omega)]
        have hl : n + (([(a 4) (p + 2)]).length : Int) = n + 1 := by show n + ((1 : Nat) : Int) = n + 1; omega
        refine M_beta_l hA (by omega) (by omega) (by omega) he hb (fun j z y => by have := i1 j z y; omega) hq1 f (p + 2 + 1) (n + 1) _ _ (by omega) (by omega) (by omega) (by omega) (fun N hN => ?_)
        have k := k N dD1 dq1 hq1 (by rw [hp, List.length_append]; omega)
        rw [hp, laL_app, hl] at k
        exact k
      · skip
        show pm_E _ _ _ 120 [(0, .ref 18), (1, .int (iI p)), (2, .int (iI (p + 2))), (3, .int (iI u)), (4, .int (iI e)), (5, .int (iI (p + 2))), (6, .int (iI ((a 4) (p + 2) - 10)))] [.ref 18] _ _ _ _
        refine pm_e_sim pm_a188_120 rfl ?_
        show pm_E _ _ _ 121 [(0, .ref 18), (1, .int (iI p)), (2, .int (iI (p + 2))), (3, .int (iI u)), (4, .int (iI e)), (5, .int (iI (p + 2))), (6, .int (iI ((a 4) (p + 2) - 10)))] [.ref 18, .ref 18] _ _ _ _
        refine pm_i_get pm_a188_121 rfl (mh_get (j := 0) hA rfl) rfl ?_
        show pm_E _ _ _ 124 [(0, .ref 18), (1, .int (iI p)), (2, .int (iI (p + 2))), (3, .int (iI u)), (4, .int (iI e)), (5, .int (iI (p + 2))), (6, .int (iI ((a 4) (p + 2) - 10)))] [.ref 22, .ref 18] _ _ _ _
        refine pm_e_sim pm_a188_124 rfl ?_
        show pm_E _ _ _ 126 [(0, .ref 18), (1, .int (iI p)), (2, .int (iI (p + 2))), (3, .int (iI u)), (4, .int (iI e)), (5, .int (iI (p + 2))), (6, .int (iI ((a 4) (p + 2) - 10)))] [.int (iI (p + 2)), .ref 22, .ref 18] _ _ _ _
        refine pm_i_ald pm_a188_126 (mh_get (j := 4) hA rfl) (by omega) (by omega) ⟨by omega, by omega⟩ ?_
        show pm_E _ _ _ 127 [(0, .ref 18), (1, .int (iI p)), (2, .int (iI (p + 2))), (3, .int (iI u)), (4, .int (iI e)), (5, .int (iI (p + 2))), (6, .int (iI ((a 4) (p + 2) - 10)))] [.int (iI ((a 4) (p + 2))), .ref 18] _ _ _ _
        refine pm_e_sim pm_a188_127 rfl ?_
        refine pm_e_top (y := iI 1) (by decide +kernel) ?_
        show pm_E _ _ _ 128 [(0, .ref 18), (1, .int (iI p)), (2, .int (iI (p + 2))), (3, .int (iI u)), (4, .int (iI e)), (5, .int (iI (p + 2))), (6, .int (iI ((a 4) (p + 2) - 10)))] [.int (iI 1), .int (iI ((a 4) (p + 2))), .ref 18] _ _ _ _
        refine pm_e_sim pm_a188_128 rfl ?_
        refine pm_e_top (y := iI ((a 4) (p + 2) - 1)) (iI_sub _ _) ?_
        show pm_E _ _ _ 129 [(0, .ref 18), (1, .int (iI p)), (2, .int (iI (p + 2))), (3, .int (iI u)), (4, .int (iI e)), (5, .int (iI (p + 2))), (6, .int (iI ((a 4) (p + 2) - 10)))] [.int (iI ((a 4) (p + 2) - 1)), .ref 18] _ _ _ _
        refine pm_e_goto pm_a188_129 rfl ?_
        show pm_E _ _ _ 139 [(0, .ref 18), (1, .int (iI p)), (2, .int (iI (p + 2))), (3, .int (iI u)), (4, .int (iI e)), (5, .int (iI (p + 2))), (6, .int (iI ((a 4) (p + 2) - 10)))] [.int (iI ((a 4) (p + 2) - 1)), .ref 18] _ _ _ _
        refine pm_i_callv (k := 18) (T2 := pm_mm185) pm_a188_139 rfl rfl rfl (mh_get (j := 0) hA rfl) ⟨Nat.le_of_ble_eq_true rfl, Nat.le_of_ble_eq_true rfl, rfl, by decide +kernel⟩ ?_
        show pm_E none _ _ 0 [(0, .ref 18), (1, .int (iI ((a 4) (p + 2) - 1)))] [] _ _ _ _
        refine M_addT (n := n) (F := F) hA (by omega) (by omega) ?_
        show pm_E _ _ _ 142 [(0, .ref 18), (1, .int (iI p)), (2, .int (iI (p + 2))), (3, .int (iI u)), (4, .int (iI e)), (5, .int (iI (p + 2))), (6, .int (iI ((a 4) (p + 2) - 10)))] [] _ _ _ _
        refine pm_e_inc (y := iI (p + 2 + 1)) pm_a188_142 rfl (iI_add _ _) (by decide +kernel) rfl ?_
        show pm_E _ _ _ 145 [(0, .ref 18), (1, .int (iI p)), (2, .int (iI (p + 2))), (3, .int (iI u)), (4, .int (iI e)), (5, .int (iI (p + 2 + 1))), (6, .int (iI ((a 4) (p + 2) - 10)))] [] _ _ _ _
        refine pm_e_goto pm_a188_145 rfl ?_
        show pm_E _ _ _ 60 [(0, .ref 18), (1, .int (iI p)), (2, .int (iI (p + 2))), (3, .int (iI u)), (4, .int (iI e)), (5, .int (iI (p + 2 + 1))), (6, .int (iI ((a 4) (p + 2) - 10)))] [] _ _ _ _
        have hp : bet (a 4) D1 q1 u (e - u).toNat (f + 1) (p + 2) = ([(a 4) (p + 2) - 1]) ++ bet (a 4) D1 q1 u (e - u).toNat f (p + 2 + 1) := by
          show bpc _ _ _ _ _ _ ++ _ = _
          rw [bpc_2 (show D1 (p + 2) < (a 4) (p + 2) - 10 by omega)]
        have hl : n + (([(a 4) (p + 2) - 1]).length : Int) = n + 1 := by show n + ((1 : Nat) : Int) = n + 1; omega
        refine M_beta_l hA (by omega) (by omega) (by omega) he hb (fun j z y => by have := i1 j z y; omega) hq1 f (p + 2 + 1) (n + 1) _ _ (by omega) (by omega) (by omega) (by omega) (fun N hN => ?_)
        have k := k N dD1 dq1 hq1 (by rw [hp, List.length_append]; omega)
        rw [hp, laL_app, hl] at k
        exact k
    · skip
      show pm_E _ _ _ 90 [(0, .ref 18), (1, .int (iI p)), (2, .int (iI (p + 2))), (3, .int (iI u)), (4, .int (iI e)), (5, .int (iI (p + 2))), (6, .int (iI ((a 4) (p + 2) - 10)))] [] _ _ _ _
      refine pm_e_sim pm_a188_90 rfl ?_
      show pm_E _ _ _ 91 [(0, .ref 18), (1, .int (iI p)), (2, .int (iI (p + 2))), (3, .int (iI u)), (4, .int (iI e)), (5, .int (iI (p + 2))), (6, .int (iI ((a 4) (p + 2) - 10)))] [.ref 18] _ _ _ _
      refine pm_e_sim pm_a188_91 rfl ?_
      show pm_E _ _ _ 92 [(0, .ref 18), (1, .int (iI p)), (2, .int (iI (p + 2))), (3, .int (iI u)), (4, .int (iI e)), (5, .int (iI (p + 2))), (6, .int (iI ((a 4) (p + 2) - 10)))] [.int (iI u), .ref 18] _ _ _ _
      refine pm_e_sim pm_a188_92 rfl ?_
      show pm_E _ _ _ 94 [(0, .ref 18), (1, .int (iI p)), (2, .int (iI (p + 2))), (3, .int (iI u)), (4, .int (iI e)), (5, .int (iI (p + 2))), (6, .int (iI ((a 4) (p + 2) - 10)))] [.int (iI e), .int (iI u), .ref 18] _ _ _ _
      refine pm_e_sim pm_a188_94 rfl ?_
      show pm_E _ _ _ 95 [(0, .ref 18), (1, .int (iI p)), (2, .int (iI (p + 2))), (3, .int (iI u)), (4, .int (iI e)), (5, .int (iI (p + 2))), (6, .int (iI ((a 4) (p + 2) - 10)))] [.ref 18, .int (iI e), .int (iI u), .ref 18] _ _ _ _
      refine pm_i_get pm_a188_95 rfl (mh_get (j := 0) hA rfl) rfl ?_
      show pm_E _ _ _ 98 [(0, .ref 18), (1, .int (iI p)), (2, .int (iI (p + 2))), (3, .int (iI u)), (4, .int (iI e)), (5, .int (iI (p + 2))), (6, .int (iI ((a 4) (p + 2) - 10)))] [.ref 23, .int (iI e), .int (iI u), .ref 18] _ _ _ _
      refine pm_e_sim pm_a188_98 rfl ?_
      show pm_E _ _ _ 100 [(0, .ref 18), (1, .int (iI p)), (2, .int (iI (p + 2))), (3, .int (iI u)), (4, .int (iI e)), (5, .int (iI (p + 2))), (6, .int (iI ((a 4) (p + 2) - 10)))] [.int (iI (p + 2)), .ref 23, .int (iI e), .int (iI u), .ref 18] _ _ _ _
      refine pm_i_ald pm_a188_100 (mh_get (j := 5) hA rfl) (by omega) (by omega) ⟨by omega, by omega⟩ ?_
      show pm_E _ _ _ 101 [(0, .ref 18), (1, .int (iI p)), (2, .int (iI (p + 2))), (3, .int (iI u)), (4, .int (iI e)), (5, .int (iI (p + 2))), (6, .int (iI ((a 4) (p + 2) - 10)))] [.int (iI ((D1) (p + 2))), .int (iI e), .int (iI u), .ref 18] _ _ _ _
      refine pm_i_callv (k := 18) (T2 := pm_mm187) pm_a188_101 rfl rfl rfl (mh_get (j := 0) hA rfl) ⟨Nat.le_of_ble_eq_true rfl, Nat.le_of_ble_eq_true rfl, rfl, by decide +kernel⟩ ?_
      show pm_E none _ _ 0 [(0, .ref 18), (1, .int (iI u)), (2, .int (iI e)), (3, .int (iI ((D1) (p + 2))))] [] _ _ _ _
      refine M_addMoreT (n := n) (F := F) (q := q1) hA (by omega) (by omega) (by omega) (fun j z y => hb j (by omega) (by omega)) hq1 (by omega) (by omega) ?_
      show pm_E _ _ _ 104 [(0, .ref 18), (1, .int (iI p)), (2, .int (iI (p + 2))), (3, .int (iI u)), (4, .int (iI e)), (5, .int (iI (p + 2))), (6, .int (iI ((a 4) (p + 2) - 10)))] [] _ _ _ _
      refine pm_e_goto pm_a188_104 rfl ?_
      show pm_E _ _ _ 142 [(0, .ref 18), (1, .int (iI p)), (2, .int (iI (p + 2))), (3, .int (iI u)), (4, .int (iI e)), (5, .int (iI (p + 2))), (6, .int (iI ((a 4) (p + 2) - 10)))] [] _ _ _ _
      refine pm_e_inc (y := iI (p + 2 + 1)) pm_a188_142 rfl (iI_add _ _) (by decide +kernel) rfl ?_
      show pm_E _ _ _ 145 [(0, .ref 18), (1, .int (iI p)), (2, .int (iI (p + 2))), (3, .int (iI u)), (4, .int (iI e)), (5, .int (iI (p + 2 + 1))), (6, .int (iI ((a 4) (p + 2) - 10)))] [] _ _ _ _
      refine pm_e_goto pm_a188_145 rfl ?_
      show pm_E _ _ _ 60 [(0, .ref 18), (1, .int (iI p)), (2, .int (iI (p + 2))), (3, .int (iI u)), (4, .int (iI e)), (5, .int (iI (p + 2 + 1))), (6, .int (iI ((a 4) (p + 2) - 10)))] [] _ _ _ _
      have hp : bet (a 4) D1 q1 u (e - u).toNat (f + 1) (p + 2) = (rg (rsI (a 4) q1 (D1 (p + 2))) (e - u).toNat u) ++ bet (a 4) D1 q1 u (e - u).toNat f (p + 2 + 1) := by
        show bpc _ _ _ _ _ _ ++ _ = _
        rw [bpc_1 (show (a 4) (p + 2) - 10 = D1 (p + 2) by omega)]
      have hl : n + ((rg (rsI (a 4) q1 (D1 (p + 2))) (e - u).toNat u).length : Int) = n + (e - u) := by rw [rg_len]; omega
      refine M_beta_l hA (by omega) (by omega) (by omega) he hb (fun j z y => by have := i1 j z y; omega) hq1 f (p + 2 + 1) (n + (e - u)) _ _ (by omega) (by omega) (by omega) (by omega) (fun N hN => ?_)
      have k := k N dD1 dq1 hq1 (by rw [hp, List.length_append]; omega)
      rw [hp, laL_app, hl] at k
      exact k
