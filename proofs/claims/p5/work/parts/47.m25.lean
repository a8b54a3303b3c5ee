/-! THE REFERENCE: beta -/
/-- what a place of the body becomes, and the body from i on, f places of it -/
def bpc (g D q : Int → Int) (u : Int) (ne : Nat) (i : Int) : List Int := if g i - 10 = D i then rg (rsI g q (D i)) ne u else if D i < g i - 10 then [g i - 1] else [g i]
def bet (g D q : Int → Int) (u : Int) (ne : Nat) : Nat → Int → List Int
  | 0, _ => []
  | f + 1, i => bpc g D q u ne i ++ bet g D q u ne f (i + 1)
theorem bpc_1 {g D q : Int → Int} {u : Int} {ne : Nat} {i : Int} (h : g i - 10 = D i) : bpc g D q u ne i = rg (rsI g q (D i)) ne u := by unfold bpc; rw [if_pos h]
theorem bpc_2 {g D q : Int → Int} {u : Int} {ne : Nat} {i : Int} (h : D i < g i - 10) : bpc g D q u ne i = [g i - 1] := by unfold bpc; rw [if_neg (by omega), if_pos h]
theorem bpc_3 {g D q : Int → Int} {u : Int} {ne : Nat} {i : Int} (h : g i - 10 < D i) : bpc g D q u ne i = [g i] := by unfold bpc; rw [if_neg (by omega), if_neg (by omega)]
set_option maxHeartbeats 4000000 in
set_option maxRecDepth 100000 in
theorem M_beta_l {d : Nat} {A B : List va_E} {s : Nat → Int} {vl : Int64} {a : Nat → Int → Int} {nm : Nat → Int64} {Q : Option Value → List va_E → Nat → Nat → Prop} {p t u e : Int} {D P q : Int → Int} (hA : A.length = 18) (h0 : 0 ≤ t) (hu : t ≤ u) (hue : u ≤ e) (he : e ≤ 11900) (hb : ∀ j, t ≤ j → j < e → 0 ≤ a 4 j ∧ a 4 j ≤ 100000) (hd : ∀ j, t ≤ j → j < u → 0 ≤ D j ∧ D j ≤ 100000) (hq : ∀ j, in32 (q j)) : ∀ (f : Nat) (i n c : Int) (F : Int → Int), t ≤ i → i + f = u → 0 ≤ n → n + 12000 * f ≤ 800000000 → (∀ N, N = n + ((bet (a 4) D q u (e - u).toNat f i).length : Int) → Q none (mh A (updS s 28 N) vl (u4 a D P q (laL F n (bet (a 4) D q u (e - u).toNat f i))) nm B) 0 0) → pm_E none (d + 2) pm_mm188 60 [(0, .ref 18), (1, .int (iI p)), (2, .int (iI t)), (3, .int (iI u)), (4, .int (iI e)), (5, .int (iI i)), (6, .int (iI c))] [] (mh A (updS s 28 n) vl (u4 a D P q F) nm B) 0 0 Q := by
  intro f
  induction f with
  | zero =>
    intro i n c F h1 h2 h3 h4 k
    refine pm_e_sim pm_a188_60 rfl ?_
    show pm_E _ _ _ 62 [(0, .ref 18), (1, .int (iI p)), (2, .int (iI t)), (3, .int (iI u)), (4, .int (iI e)), (5, .int (iI i)), (6, .int (iI c))] [.int (iI i)] _ _ _ _
    refine pm_e_sim pm_a188_62 rfl ?_
    show pm_E _ _ _ 63 [(0, .ref 18), (1, .int (iI p)), (2, .int (iI t)), (3, .int (iI u)), (4, .int (iI e)), (5, .int (iI i)), (6, .int (iI c))] [.int (iI u), .int (iI i)] _ _ _ _
    refine pm_c_ge (t := 148) pm_a188_63 rfl ⟨by omega, by omega⟩ ⟨by omega, by omega⟩ (fun h_1 => ?_) (fun h_1 => ?_)
    · skip
      show pm_E _ _ _ 148 [(0, .ref 18), (1, .int (iI p)), (2, .int (iI t)), (3, .int (iI u)), (4, .int (iI e)), (5, .int (iI i)), (6, .int (iI c))] [] _ _ _ _
      refine pm_e_ret pm_a188_148 rfl rfl rfl rfl rfl rfl rfl rfl ?_
      exact k n (by show n = n + ((0 : Nat) : Int); omega)
    · skip
      exfalso; omega
  | succ f ih =>
    intro i n c F h1 h2 h3 h4 k
    obtain ⟨b0, b1⟩ := hb i (by omega) (by omega)
    obtain ⟨d0, d1⟩ := hd i (by omega) (by omega)
    refine pm_e_sim pm_a188_60 rfl ?_
    show pm_E _ _ _ 62 [(0, .ref 18), (1, .int (iI p)), (2, .int (iI t)), (3, .int (iI u)), (4, .int (iI e)), (5, .int (iI i)), (6, .int (iI c))] [.int (iI i)] _ _ _ _
    refine pm_e_sim pm_a188_62 rfl ?_
    show pm_E _ _ _ 63 [(0, .ref 18), (1, .int (iI p)), (2, .int (iI t)), (3, .int (iI u)), (4, .int (iI e)), (5, .int (iI i)), (6, .int (iI c))] [.int (iI u), .int (iI i)] _ _ _ _
    refine pm_c_ge (t := 148) pm_a188_63 rfl ⟨by omega, by omega⟩ ⟨by omega, by omega⟩ (fun h_1 => ?_) (fun h_1 => ?_)
    · skip
      exfalso; omega
    · skip
      show pm_E _ _ _ 66 [(0, .ref 18), (1, .int (iI p)), (2, .int (iI t)), (3, .int (iI u)), (4, .int (iI e)), (5, .int (iI i)), (6, .int (iI c))] [] _ _ _ _
      refine pm_e_sim pm_a188_66 rfl ?_
      show pm_E _ _ _ 67 [(0, .ref 18), (1, .int (iI p)), (2, .int (iI t)), (3, .int (iI u)), (4, .int (iI e)), (5, .int (iI i)), (6, .int (iI c))] [.ref 18] _ _ _ _
      refine pm_i_get pm_a188_67 rfl (mh_get (j := 0) hA rfl) rfl ?_
      show pm_E _ _ _ 70 [(0, .ref 18), (1, .int (iI p)), (2, .int (iI t)), (3, .int (iI u)), (4, .int (iI e)), (5, .int (iI i)), (6, .int (iI c))] [.ref 22] _ _ _ _
      refine pm_e_sim pm_a188_70 rfl ?_
      show pm_E _ _ _ 72 [(0, .ref 18), (1, .int (iI p)), (2, .int (iI t)), (3, .int (iI u)), (4, .int (iI e)), (5, .int (iI i)), (6, .int (iI c))] [.int (iI i), .ref 22] _ _ _ _
      refine pm_i_ald pm_a188_72 (mh_get (j := 4) hA rfl) (by omega) (by omega) ⟨by omega, by omega⟩ ?_
      show pm_E _ _ _ 73 [(0, .ref 18), (1, .int (iI p)), (2, .int (iI t)), (3, .int (iI u)), (4, .int (iI e)), (5, .int (iI i)), (6, .int (iI c))] [.int (iI ((a 4) (i)))] _ _ _ _
      refine pm_e_sim pm_a188_73 rfl ?_
      refine pm_e_top (y := iI 10) (by decide +kernel) ?_
      show pm_E _ _ _ 75 [(0, .ref 18), (1, .int (iI p)), (2, .int (iI t)), (3, .int (iI u)), (4, .int (iI e)), (5, .int (iI i)), (6, .int (iI c))] [.int (iI 10), .int (iI ((a 4) (i)))] _ _ _ _
      refine pm_e_sim pm_a188_75 rfl ?_
      refine pm_e_top (y := iI ((a 4) (i) - 10)) (iI_sub _ _) ?_
      show pm_E _ _ _ 76 [(0, .ref 18), (1, .int (iI p)), (2, .int (iI t)), (3, .int (iI u)), (4, .int (iI e)), (5, .int (iI i)), (6, .int (iI c))] [.int (iI ((a 4) (i) - 10))] _ _ _ _
      refine pm_e_sim pm_a188_76 rfl ?_
      show pm_E _ _ _ 78 [(0, .ref 18), (1, .int (iI p)), (2, .int (iI t)), (3, .int (iI u)), (4, .int (iI e)), (5, .int (iI i)), (6, .int (iI ((a 4) (i) - 10)))] [] _ _ _ _
      refine pm_e_sim pm_a188_78 rfl ?_
      show pm_E _ _ _ 80 [(0, .ref 18), (1, .int (iI p)), (2, .int (iI t)), (3, .int (iI u)), (4, .int (iI e)), (5, .int (iI i)), (6, .int (iI ((a 4) (i) - 10)))] [.int (iI ((a 4) (i) - 10))] _ _ _ _
      refine pm_e_sim pm_a188_80 rfl ?_
      show pm_E _ _ _ 81 [(0, .ref 18), (1, .int (iI p)), (2, .int (iI t)), (3, .int (iI u)), (4, .int (iI e)), (5, .int (iI i)), (6, .int (iI ((a 4) (i) - 10)))] [.ref 18, .int (iI ((a 4) (i) - 10))] _ _ _ _
      refine pm_i_get pm_a188_81 rfl (mh_get (j := 0) hA rfl) rfl ?_
      show pm_E _ _ _ 84 [(0, .ref 18), (1, .int (iI p)), (2, .int (iI t)), (3, .int (iI u)), (4, .int (iI e)), (5, .int (iI i)), (6, .int (iI ((a 4) (i) - 10)))] [.ref 23, .int (iI ((a 4) (i) - 10))] _ _ _ _
      refine pm_e_sim pm_a188_84 rfl ?_
      show pm_E _ _ _ 86 [(0, .ref 18), (1, .int (iI p)), (2, .int (iI t)), (3, .int (iI u)), (4, .int (iI e)), (5, .int (iI i)), (6, .int (iI ((a 4) (i) - 10)))] [.int (iI i), .ref 23, .int (iI ((a 4) (i) - 10))] _ _ _ _
      refine pm_i_ald pm_a188_86 (mh_get (j := 5) hA rfl) (by omega) (by omega) ⟨by omega, by omega⟩ ?_
      show pm_E _ _ _ 87 [(0, .ref 18), (1, .int (iI p)), (2, .int (iI t)), (3, .int (iI u)), (4, .int (iI e)), (5, .int (iI i)), (6, .int (iI ((a 4) (i) - 10)))] [.int (iI ((D) (i))), .int (iI ((a 4) (i) - 10))] _ _ _ _
      refine pm_c_ne (t := 107) pm_a188_87 rfl ⟨by omega, by omega⟩ ⟨by omega, by omega⟩ (fun h_2 => ?_) (fun h_2 => ?_)
      · skip
        show pm_E _ _ _ 107 [(0, .ref 18), (1, .int (iI p)), (2, .int (iI t)), (3, .int (iI u)), (4, .int (iI e)), (5, .int (iI i)), (6, .int (iI ((a 4) (i) - 10)))] [] _ _ _ _
        refine pm_e_sim pm_a188_107 rfl ?_
        show pm_E _ _ _ 108 [(0, .ref 18), (1, .int (iI p)), (2, .int (iI t)), (3, .int (iI u)), (4, .int (iI e)), (5, .int (iI i)), (6, .int (iI ((a 4) (i) - 10)))] [.ref 18] _ _ _ _
        refine pm_e_sim pm_a188_108 rfl ?_
        show pm_E _ _ _ 110 [(0, .ref 18), (1, .int (iI p)), (2, .int (iI t)), (3, .int (iI u)), (4, .int (iI e)), (5, .int (iI i)), (6, .int (iI ((a 4) (i) - 10)))] [.int (iI ((a 4) (i) - 10)), .ref 18] _ _ _ _
        refine pm_e_sim pm_a188_110 rfl ?_
        show pm_E _ _ _ 111 [(0, .ref 18), (1, .int (iI p)), (2, .int (iI t)), (3, .int (iI u)), (4, .int (iI e)), (5, .int (iI i)), (6, .int (iI ((a 4) (i) - 10)))] [.ref 18, .int (iI ((a 4) (i) - 10)), .ref 18] _ _ _ _
        refine pm_i_get pm_a188_111 rfl (mh_get (j := 0) hA rfl) rfl ?_
        show pm_E _ _ _ 114 [(0, .ref 18), (1, .int (iI p)), (2, .int (iI t)), (3, .int (iI u)), (4, .int (iI e)), (5, .int (iI i)), (6, .int (iI ((a 4) (i) - 10)))] [.ref 23, .int (iI ((a 4) (i) - 10)), .ref 18] _ _ _ _
        refine pm_e_sim pm_a188_114 rfl ?_
        show pm_E _ _ _ 116 [(0, .ref 18), (1, .int (iI p)), (2, .int (iI t)), (3, .int (iI u)), (4, .int (iI e)), (5, .int (iI i)), (6, .int (iI ((a 4) (i) - 10)))] [.int (iI i), .ref 23, .int (iI ((a 4) (i) - 10)), .ref 18] _ _ _ _
        refine pm_i_ald pm_a188_116 (mh_get (j := 5) hA rfl) (by omega) (by omega) ⟨by omega, by omega⟩ ?_
        show pm_E _ _ _ 117 [(0, .ref 18), (1, .int (iI p)), (2, .int (iI t)), (3, .int (iI u)), (4, .int (iI e)), (5, .int (iI i)), (6, .int (iI ((a 4) (i) - 10)))] [.int (iI ((D) (i))), .int (iI ((a 4) (i) - 10)), .ref 18] _ _ _ _
        refine pm_c_le (t := 132) pm_a188_117 rfl ⟨by omega, by omega⟩ ⟨by omega, by omega⟩ (fun h_3 => ?_) (fun h_3 => ?_)
        · skip
          show pm_E _ _ _ 132 [(0, .ref 18), (1, .int (iI p)), (2, .int (iI t)), (3, .int (iI u)), (4, .int (iI e)), (5, .int (iI i)), (6, .int (iI ((a 4) (i) - 10)))] [.ref 18] _ _ _ _
          refine pm_e_sim pm_a188_132 rfl ?_
          show pm_E _ _ _ 133 [(0, .ref 18), (1, .int (iI p)), (2, .int (iI t)), (3, .int (iI u)), (4, .int (iI e)), (5, .int (iI i)), (6, .int (iI ((a 4) (i) - 10)))] [.ref 18, .ref 18] _ _ _ _
          refine pm_i_get pm_a188_133 rfl (mh_get (j := 0) hA rfl) rfl ?_
          show pm_E _ _ _ 136 [(0, .ref 18), (1, .int (iI p)), (2, .int (iI t)), (3, .int (iI u)), (4, .int (iI e)), (5, .int (iI i)), (6, .int (iI ((a 4) (i) - 10)))] [.ref 22, .ref 18] _ _ _ _
          refine pm_e_sim pm_a188_136 rfl ?_
          show pm_E _ _ _ 138 [(0, .ref 18), (1, .int (iI p)), (2, .int (iI t)), (3, .int (iI u)), (4, .int (iI e)), (5, .int (iI i)), (6, .int (iI ((a 4) (i) - 10)))] [.int (iI i), .ref 22, .ref 18] _ _ _ _
          refine pm_i_ald pm_a188_138 (mh_get (j := 4) hA rfl) (by omega) (by omega) ⟨by omega, by omega⟩ ?_
          show pm_E _ _ _ 139 [(0, .ref 18), (1, .int (iI p)), (2, .int (iI t)), (3, .int (iI u)), (4, .int (iI e)), (5, .int (iI i)), (6, .int (iI ((a 4) (i) - 10)))] [.int (iI ((a 4) (i))), .ref 18] _ _ _ _
          refine pm_i_callv (k := 18) (T2 := pm_mm185) pm_a188_139 rfl rfl rfl (mh_get (j := 0) hA rfl) ⟨Nat.le_of_ble_eq_true rfl, Nat.le_of_ble_eq_true rfl, rfl, by decide +kernel⟩ ?_
          show pm_E none _ _ 0 [(0, .ref 18), (1, .int (iI ((a 4) (i))))] [] _ _ _ _
          refine M_addT (n := n) (F := F) hA (by omega) (by omega) ?_
          show pm_E _ _ _ 142 [(0, .ref 18), (1, .int (iI p)), (2, .int (iI t)), (3, .int (iI u)), (4, .int (iI e)), (5, .int (iI i)), (6, .int (iI ((a 4) (i) - 10)))] [] _ _ _ _
          refine pm_e_inc (y := iI (i + 1)) pm_a188_142 rfl (iI_add _ _) (by decide +kernel) rfl ?_
          show pm_E _ _ _ 145 [(0, .ref 18), (1, .int (iI p)), (2, .int (iI t)), (3, .int (iI u)), (4, .int (iI e)), (5, .int (iI (i + 1))), (6, .int (iI ((a 4) (i) - 10)))] [] _ _ _ _
          refine pm_e_goto pm_a188_145 rfl ?_
          show pm_E _ _ _ 60 [(0, .ref 18), (1, .int (iI p)), (2, .int (iI t)), (3, .int (iI u)), (4, .int (iI e)), (5, .int (iI (i + 1))), (6, .int (iI ((a 4) (i) - 10)))] [] _ _ _ _
          have hp : bet (a 4) D q u (e - u).toNat (f + 1) i = ([(a 4) (i)]) ++ bet (a 4) D q u (e - u).toNat f (i + 1) := by
            show bpc _ _ _ _ _ _ ++ _ = _
            rw [bpc_3 (show (a 4) i - 10 < D i by omega)]
          have hl : n + (([(a 4) (i)]).length : Int) = n + 1 := by show n + ((1 : Nat) : Int) = n + 1; omega
          rw [hp, laL_app, hl, List.length_append] at k
          refine ih (i + 1) (n + 1) _ _ (by omega) (by omega) (by omega) (by omega) (fun N hN => k N (by omega))
        · skip
          show pm_E _ _ _ 120 [(0, .ref 18), (1, .int (iI p)), (2, .int (iI t)), (3, .int (iI u)), (4, .int (iI e)), (5, .int (iI i)), (6, .int (iI ((a 4) (i) - 10)))] [.ref 18] _ _ _ _
          refine pm_e_sim pm_a188_120 rfl ?_
          show pm_E _ _ _ 121 [(0, .ref 18), (1, .int (iI p)), (2, .int (iI t)), (3, .int (iI u)), (4, .int (iI e)), (5, .int (iI i)), (6, .int (iI ((a 4) (i) - 10)))] [.ref 18, .ref 18] _ _ _ _
          refine pm_i_get pm_a188_121 rfl (mh_get (j := 0) hA rfl) rfl ?_
          show pm_E _ _ _ 124 [(0, .ref 18), (1, .int (iI p)), (2, .int (iI t)), (3, .int (iI u)), (4, .int (iI e)), (5, .int (iI i)), (6, .int (iI ((a 4) (i) - 10)))] [.ref 22, .ref 18] _ _ _ _
          refine pm_e_sim pm_a188_124 rfl ?_
          show pm_E _ _ _ 126 [(0, .ref 18), (1, .int (iI p)), (2, .int (iI t)), (3, .int (iI u)), (4, .int (iI e)), (5, .int (iI i)), (6, .int (iI ((a 4) (i) - 10)))] [.int (iI i), .ref 22, .ref 18] _ _ _ _
          refine pm_i_ald pm_a188_126 (mh_get (j := 4) hA rfl) (by omega) (by omega) ⟨by omega, by omega⟩ ?_
          show pm_E _ _ _ 127 [(0, .ref 18), (1, .int (iI p)), (2, .int (iI t)), (3, .int (iI u)), (4, .int (iI e)), (5, .int (iI i)), (6, .int (iI ((a 4) (i) - 10)))] [.int (iI ((a 4) (i))), .ref 18] _ _ _ _
          refine pm_e_sim pm_a188_127 rfl ?_
          refine pm_e_top (y := iI 1) (by decide +kernel) ?_
          show pm_E _ _ _ 128 [(0, .ref 18), (1, .int (iI p)), (2, .int (iI t)), (3, .int (iI u)), (4, .int (iI e)), (5, .int (iI i)), (6, .int (iI ((a 4) (i) - 10)))] [.int (iI 1), .int (iI ((a 4) (i))), .ref 18] _ _ _ _
          refine pm_e_sim pm_a188_128 rfl ?_
          refine pm_e_top (y := iI ((a 4) (i) - 1)) (iI_sub _ _) ?_
          show pm_E _ _ _ 129 [(0, .ref 18), (1, .int (iI p)), (2, .int (iI t)), (3, .int (iI u)), (4, .int (iI e)), (5, .int (iI i)), (6, .int (iI ((a 4) (i) - 10)))] [.int (iI ((a 4) (i) - 1)), .ref 18] _ _ _ _
          refine pm_e_goto pm_a188_129 rfl ?_
          show pm_E _ _ _ 139 [(0, .ref 18), (1, .int (iI p)), (2, .int (iI t)), (3, .int (iI u)), (4, .int (iI e)), (5, .int (iI i)), (6, .int (iI ((a 4) (i) - 10)))] [.int (iI ((a 4) (i) - 1)), .ref 18] _ _ _ _
          refine pm_i_callv (k := 18) (T2 := pm_mm185) pm_a188_139 rfl rfl rfl (mh_get (j := 0) hA rfl) ⟨Nat.le_of_ble_eq_true rfl, Nat.le_of_ble_eq_true rfl, rfl, by decide +kernel⟩ ?_
          show pm_E none _ _ 0 [(0, .ref 18), (1, .int (iI ((a 4) (i) - 1)))] [] _ _ _ _
          refine M_addT (n := n) (F := F) hA (by omega) (by omega) ?_
          show pm_E _ _ _ 142 [(0, .ref 18), (1, .int (iI p)), (2, .int (iI t)), (3, .int (iI u)), (4, .int (iI e)), (5, .int (iI i)), (6, .int (iI ((a 4) (i) - 10)))] [] _ _ _ _
          refine pm_e_inc (y := iI (i + 1)) pm_a188_142 rfl (iI_add _ _) (by decide +kernel) rfl ?_
          show pm_E _ _ _ 145 [(0, .ref 18), (1, .int (iI p)), (2, .int (iI t)), (3, .int (iI u)), (4, .int (iI e)), (5, .int (iI (i + 1))), (6, .int (iI ((a 4) (i) - 10)))] [] _ _ _ _
          refine pm_e_goto pm_a188_145 rfl ?_
          show pm_E _ _ _ 60 [(0, .ref 18), (1, .int (iI p)), (2, .int (iI t)), (3, .int (iI u)), (4, .int (iI e)), (5, .int (iI (i + 1))), (6, .int (iI ((a 4) (i) - 10)))] [] _ _ _ _
          have hp : bet (a 4) D q u (e - u).toNat (f + 1) i = ([(a 4) (i) - 1]) ++ bet (a 4) D q u (e - u).toNat f (i + 1) := by
            show bpc _ _ _ _ _ _ ++ _ = _
            rw [bpc_2 (show D i < (a 4) i - 10 by omega)]
          have hl : n + (([(a 4) (i) - 1]).length : Int) = n + 1 := by show n + ((1 : Nat) : Int) = n + 1; omega
          rw [hp, laL_app, hl, List.length_append] at k
          refine ih (i + 1) (n + 1) _ _ (by omega) (by omega) (by omega) (by omega) (fun N hN => k N (by omega))
      · skip
        show pm_E _ _ _ 90 [(0, .ref 18), (1, .int (iI p)), (2, .int (iI t)), (3, .int (iI u)), (4, .int (iI e)), (5, .int (iI i)), (6, .int (iI ((a 4) (i) - 10)))] [] _ _ _ _
        refine pm_e_sim pm_a188_90 rfl ?_
        show pm_E _ _ _ 91 [(0, .ref 18), (1, .int (iI p)), (2, .int (iI t)), (3, .int (iI u)), (4, .int (iI e)), (5, .int (iI i)), (6, .int (iI ((a 4) (i) - 10)))] [.ref 18] _ _ _ _
        refine pm_e_sim pm_a188_91 rfl ?_
        show pm_E _ _ _ 92 [(0, .ref 18), (1, .int (iI p)), (2, .int (iI t)), (3, .int (iI u)), (4, .int (iI e)), (5, .int (iI i)), (6, .int (iI ((a 4) (i) - 10)))] [.int (iI u), .ref 18] _ _ _ _
        refine pm_e_sim pm_a188_92 rfl ?_
        show pm_E _ _ _ 94 [(0, .ref 18), (1, .int (iI p)), (2, .int (iI t)), (3, .int (iI u)), (4, .int (iI e)), (5, .int (iI i)), (6, .int (iI ((a 4) (i) - 10)))] [.int (iI e), .int (iI u), .ref 18] _ _ _ _
        refine pm_e_sim pm_a188_94 rfl ?_
        show pm_E _ _ _ 95 [(0, .ref 18), (1, .int (iI p)), (2, .int (iI t)), (3, .int (iI u)), (4, .int (iI e)), (5, .int (iI i)), (6, .int (iI ((a 4) (i) - 10)))] [.ref 18, .int (iI e), .int (iI u), .ref 18] _ _ _ _
        refine pm_i_get pm_a188_95 rfl (mh_get (j := 0) hA rfl) rfl ?_
        show pm_E _ _ _ 98 [(0, .ref 18), (1, .int (iI p)), (2, .int (iI t)), (3, .int (iI u)), (4, .int (iI e)), (5, .int (iI i)), (6, .int (iI ((a 4) (i) - 10)))] [.ref 23, .int (iI e), .int (iI u), .ref 18] _ _ _ _
        refine pm_e_sim pm_a188_98 rfl ?_
        show pm_E _ _ _ 100 [(0, .ref 18), (1, .int (iI p)), (2, .int (iI t)), (3, .int (iI u)), (4, .int (iI e)), (5, .int (iI i)), (6, .int (iI ((a 4) (i) - 10)))] [.int (iI i), .ref 23, .int (iI e), .int (iI u), .ref 18] _ _ _ _
        refine pm_i_ald pm_a188_100 (mh_get (j := 5) hA rfl) (by omega) (by omega) ⟨by omega, by omega⟩ ?_
        show pm_E _ _ _ 101 [(0, .ref 18), (1, .int (iI p)), (2, .int (iI t)), (3, .int (iI u)), (4, .int (iI e)), (5, .int (iI i)), (6, .int (iI ((a 4) (i) - 10)))] [.int (iI ((D) (i))), .int (iI e), .int (iI u), .ref 18] _ _ _ _
        refine pm_i_callv (k := 18) (T2 := pm_mm187) pm_a188_101 rfl rfl rfl (mh_get (j := 0) hA rfl) ⟨Nat.le_of_ble_eq_true rfl, Nat.le_of_ble_eq_true rfl, rfl, by decide +kernel⟩ ?_
        show pm_E none _ _ 0 [(0, .ref 18), (1, .int (iI u)), (2, .int (iI e)), (3, .int (iI ((D) (i))))] [] _ _ _ _
        refine M_addMoreT (n := n) (F := F) (q := q) hA (by omega) (by omega) (by omega) (fun j z y => hb j (by omega) (by omega)) hq (by omega) (by omega) ?_
        show pm_E _ _ _ 104 [(0, .ref 18), (1, .int (iI p)), (2, .int (iI t)), (3, .int (iI u)), (4, .int (iI e)), (5, .int (iI i)), (6, .int (iI ((a 4) (i) - 10)))] [] _ _ _ _
        refine pm_e_goto pm_a188_104 rfl ?_
        show pm_E _ _ _ 142 [(0, .ref 18), (1, .int (iI p)), (2, .int (iI t)), (3, .int (iI u)), (4, .int (iI e)), (5, .int (iI i)), (6, .int (iI ((a 4) (i) - 10)))] [] _ _ _ _
        refine pm_e_inc (y := iI (i + 1)) pm_a188_142 rfl (iI_add _ _) (by decide +kernel) rfl ?_
        show pm_E _ _ _ 145 [(0, .ref 18), (1, .int (iI p)), (2, .int (iI t)), (3, .int (iI u)), (4, .int (iI e)), (5, .int (iI (i + 1))), (6, .int (iI ((a 4) (i) - 10)))] [] _ _ _ _
        refine pm_e_goto pm_a188_145 rfl ?_
        show pm_E _ _ _ 60 [(0, .ref 18), (1, .int (iI p)), (2, .int (iI t)), (3, .int (iI u)), (4, .int (iI e)), (5, .int (iI (i + 1))), (6, .int (iI ((a 4) (i) - 10)))] [] _ _ _ _
        have hp : bet (a 4) D q u (e - u).toNat (f + 1) i = (rg (rsI (a 4) q (D i)) (e - u).toNat u) ++ bet (a 4) D q u (e - u).toNat f (i + 1) := by
          show bpc _ _ _ _ _ _ ++ _ = _
          rw [bpc_1 (show (a 4) i - 10 = D i by omega)]
        have hl : n + ((rg (rsI (a 4) q (D i)) (e - u).toNat u).length : Int) = n + (e - u) := by rw [rg_len]; omega
        rw [hp, laL_app, hl, List.length_append] at k
        refine ih (i + 1) (n + (e - u)) _ _ (by omega) (by omega) (by omega) (by omega) (fun N hN => k N (by omega))
theorem cp0_step {g f : Int → Int} {i n : Int} (h : i < n) : cpI (updI g i (f i)) f 0 (i + 1) n = cpI g f 0 i n := by
  have := cpI_step (g := g) (f := f) (o := 0) h
  rw [show (0 : Int) + i = i by omega] at this
  exact this
set_option maxHeartbeats 4000000 in
set_option maxRecDepth 100000 in
theorem M_beta_c {d : Nat} {A B : List va_E} {s : Nat → Int} {vl : Int64} {a : Nat → Int → Int} {nm : Nat → Int64} {Q : Option Value → List va_E → Nat → Nat → Prop} {p t u e n : Int} {D P F : Int → Int} (hA : A.length = 18) (h0 : 0 ≤ u) (he : e ≤ 11900) : ∀ (f : Nat) (i : Int) (q : Int → Int), u ≤ i → i + f = e → (∀ j, j = e → pm_E none (d + 2) pm_mm188 52 [(0, .ref 18), (1, .int (iI p)), (2, .int (iI t)), (3, .int (iI u)), (4, .int (iI e)), (5, .int (iI j))] [] (mh A (updS s 28 n) vl (u4 a D P (cpI q D 0 i e) F) nm B) 0 0 Q) → pm_E none (d + 2) pm_mm188 25 [(0, .ref 18), (1, .int (iI p)), (2, .int (iI t)), (3, .int (iI u)), (4, .int (iI e)), (5, .int (iI i))] [] (mh A (updS s 28 n) vl (u4 a D P q F) nm B) 0 0 Q := by
  intro f
  induction f with
  | zero =>
    intro i q h1 h2 k
    refine pm_e_sim pm_a188_25 rfl ?_
    show pm_E _ _ _ 27 [(0, .ref 18), (1, .int (iI p)), (2, .int (iI t)), (3, .int (iI u)), (4, .int (iI e)), (5, .int (iI i))] [.int (iI i)] _ _ _ _
    refine pm_e_sim pm_a188_27 rfl ?_
    show pm_E _ _ _ 29 [(0, .ref 18), (1, .int (iI p)), (2, .int (iI t)), (3, .int (iI u)), (4, .int (iI e)), (5, .int (iI i))] [.int (iI e), .int (iI i)] _ _ _ _
    refine pm_c_ge (t := 52) pm_a188_29 rfl ⟨by omega, by omega⟩ ⟨by omega, by omega⟩ (fun h_1 => ?_) (fun h_1 => ?_)
    · skip
      show pm_E _ _ _ 52 [(0, .ref 18), (1, .int (iI p)), (2, .int (iI t)), (3, .int (iI u)), (4, .int (iI e)), (5, .int (iI i))] [] _ _ _ _
      rw [cpI_0 (by omega)] at k
      exact k i (by omega)
    · skip
      exfalso; omega
  | succ f ih =>
    intro i q h1 h2 k
    refine pm_e_sim pm_a188_25 rfl ?_
    show pm_E _ _ _ 27 [(0, .ref 18), (1, .int (iI p)), (2, .int (iI t)), (3, .int (iI u)), (4, .int (iI e)), (5, .int (iI i))] [.int (iI i)] _ _ _ _
    refine pm_e_sim pm_a188_27 rfl ?_
    show pm_E _ _ _ 29 [(0, .ref 18), (1, .int (iI p)), (2, .int (iI t)), (3, .int (iI u)), (4, .int (iI e)), (5, .int (iI i))] [.int (iI e), .int (iI i)] _ _ _ _
    refine pm_c_ge (t := 52) pm_a188_29 rfl ⟨by omega, by omega⟩ ⟨by omega, by omega⟩ (fun h_1 => ?_) (fun h_1 => ?_)
    · skip
      exfalso; omega
    · skip
      show pm_E _ _ _ 32 [(0, .ref 18), (1, .int (iI p)), (2, .int (iI t)), (3, .int (iI u)), (4, .int (iI e)), (5, .int (iI i))] [] _ _ _ _
      refine pm_e_sim pm_a188_32 rfl ?_
      show pm_E _ _ _ 33 [(0, .ref 18), (1, .int (iI p)), (2, .int (iI t)), (3, .int (iI u)), (4, .int (iI e)), (5, .int (iI i))] [.ref 18] _ _ _ _
      refine pm_i_get pm_a188_33 rfl (mh_get (j := 0) hA rfl) rfl ?_
      show pm_E _ _ _ 36 [(0, .ref 18), (1, .int (iI p)), (2, .int (iI t)), (3, .int (iI u)), (4, .int (iI e)), (5, .int (iI i))] [.ref 34] _ _ _ _
      refine pm_e_sim pm_a188_36 rfl ?_
      show pm_E _ _ _ 38 [(0, .ref 18), (1, .int (iI p)), (2, .int (iI t)), (3, .int (iI u)), (4, .int (iI e)), (5, .int (iI i))] [.int (iI i), .ref 34] _ _ _ _
      refine pm_e_sim pm_a188_38 rfl ?_
      show pm_E _ _ _ 39 [(0, .ref 18), (1, .int (iI p)), (2, .int (iI t)), (3, .int (iI u)), (4, .int (iI e)), (5, .int (iI i))] [.ref 18, .int (iI i), .ref 34] _ _ _ _
      refine pm_i_get pm_a188_39 rfl (mh_get (j := 0) hA rfl) rfl ?_
      show pm_E _ _ _ 42 [(0, .ref 18), (1, .int (iI p)), (2, .int (iI t)), (3, .int (iI u)), (4, .int (iI e)), (5, .int (iI i))] [.ref 23, .int (iI i), .ref 34] _ _ _ _
      refine pm_e_sim pm_a188_42 rfl ?_
      show pm_E _ _ _ 44 [(0, .ref 18), (1, .int (iI p)), (2, .int (iI t)), (3, .int (iI u)), (4, .int (iI e)), (5, .int (iI i))] [.int (iI i), .ref 23, .int (iI i), .ref 34] _ _ _ _
      refine pm_i_ald pm_a188_44 (mh_get (j := 5) hA rfl) (by omega) (by omega) ⟨by omega, by omega⟩ ?_
      show pm_E _ _ _ 45 [(0, .ref 18), (1, .int (iI p)), (2, .int (iI t)), (3, .int (iI u)), (4, .int (iI e)), (5, .int (iI i))] [.int (iI ((D) (i))), .int (iI i), .ref 34] _ _ _ _
      refine pm_i_ast pm_a188_45 (mh_get (j := 16) hA rfl) (by omega) (by omega) ⟨by omega, by omega⟩ ((ma_16 hA _).trans (congrArg (fun z => mh A _ _ z _ B) (u4_16))) ?_
      show pm_E _ _ _ 46 [(0, .ref 18), (1, .int (iI p)), (2, .int (iI t)), (3, .int (iI u)), (4, .int (iI e)), (5, .int (iI i))] [] _ _ _ _
      refine pm_e_inc (y := iI (i + 1)) pm_a188_46 rfl (iI_add _ _) (by decide +kernel) rfl ?_
      show pm_E _ _ _ 49 [(0, .ref 18), (1, .int (iI p)), (2, .int (iI t)), (3, .int (iI u)), (4, .int (iI e)), (5, .int (iI (i + 1)))] [] _ _ _ _
      refine pm_e_goto pm_a188_49 rfl ?_
      show pm_E _ _ _ 25 [(0, .ref 18), (1, .int (iI p)), (2, .int (iI t)), (3, .int (iI u)), (4, .int (iI e)), (5, .int (iI (i + 1)))] [] _ _ _ _
      rw [← cp0_step (by omega)] at k
      exact ih (i + 1) _ (by omega) (by omega) k
