/-! THE REFERENCE: abstracts -/
theorem nau_spec {g : Int → Int} {e : Int} : ∀ {f : Nat} {p : Int}, p + f = e → (nau g e f p = 0 ∧ ∀ j, p ≤ j → j < e → g j ≠ 10) ∨ (nau g e f p = 1 ∧ ∃ j, p ≤ j ∧ j < e ∧ g j = 10) := by
  intro f
  induction f with
  | zero => intro p h; exact Or.inl ⟨rfl, fun j a b => by omega⟩
  | succ f ih =>
    intro p h
    show ((if e ≤ p then 0 else if g p = 10 then 1 else nau g e f (p + 1)) = 0 ∧ _) ∨ ((if e ≤ p then 0 else if g p = 10 then 1 else nau g e f (p + 1)) = 1 ∧ _)
    rw [if_neg (by omega)]
    by_cases hp : g p = 10
    · rw [if_pos hp]; exact Or.inr ⟨rfl, p, by omega, by omega, hp⟩
    · rw [if_neg hp]
      rcases ih (p := p + 1) (by omega) with ⟨h1, h2⟩ | ⟨h1, j, h2, h3, h4⟩
      · exact Or.inl ⟨h1, fun j a b => if hj : j = p then (by rw [hj]; exact hp) else h2 j (by omega) b⟩
      · exact Or.inr ⟨h1, j, by omega, h3, h4⟩
theorem ab_len2 {g : Int → Int} : ∀ {f : Nat} {p e : Int} {r : List Int}, p < e → ab g f p e r → (r.length : Int) ≤ 3 * (e - p) := by
  intro f
  induction f with
  | zero => intro p e r _ h; exact h.elim
  | succ f ih =>
    intro p e r hpe h
    rcases h with ⟨h0, h1, h2⟩ | ⟨h0, h1, h2⟩ | ⟨h0, _, v, ⟨fa, ka, ta⟩, ⟨fb, kb, tb⟩, h⟩
    · rw [h2]; simp only [List.length_cons, List.length_nil]; omega
    · rw [h2]; simp only [List.length_append, List.length_cons, List.length_nil, rg_len]; omega
    · have la := tm_lt ta; have lb := tm_lt tb
      rcases h with ⟨a1, a2, a3⟩ | ⟨a1, r1, r2, b1, b2, a3⟩
      · rw [a3, rg_len]; omega
      · have := ih la b1; have := ih lb b2
        rw [a3]; simp only [List.length_append, List.length_cons, List.length_nil]; omega
set_option maxHeartbeats 4000000 in
set_option maxRecDepth 100000 in
theorem M_abstracts_l {d : Nat} {A B : List va_E} {s : Nat → Int} {vl : Int64} {a : Nat → Int → Int} {nm : Nat → Int64} {Q : Option Value → List va_E → Nat → Nat → Prop} {D P q : Int → Int} {x : Int} (hA : A.length = 18) (hr : ∀ j, in32 (a 4 j)) : ∀ (f : Nat) {k p e : Int}, tm (a 4) f k p e → (∀ j, p ≤ j → j < e → a 4 j ≠ 1) → 0 ≤ p → e ≤ 11000 → (∀ j, p ≤ j → j < e → 0 ≤ a 4 j ∧ a 4 j ≤ 100000) → ∀ (w n : Int) (F : Int → Int), 0 < w → w + (e - p) ≤ 100000 → 0 ≤ n → n + 3 * (e - p) ≤ 800000 → (∀ r N, ab (a 4) f p e r → N = n + (r.length : Int) → pm_E none (d + 2) pm_mm196 6 [(0, .ref 18), (1, .int (iI x)), (2, .int (iI (w - 1))), (3, .int (iI e))] [] (mh A (updS s 28 N) vl (u4 a D P q (laL F n r)) nm B) 0 0 Q) → pm_E none (d + 2) pm_mm196 6 [(0, .ref 18), (1, .int (iI x)), (2, .int (iI w)), (3, .int (iI p))] [] (mh A (updS s 28 n) vl (u4 a D P q F) nm B) 0 0 Q := by
  intro f
  induction f with
  | zero => intro k p e t; exact t.elim
  | succ f ih =>
    intro kk p e t hno hp0 he hb w n F hw0 hw1 hn0 hn1 k
    have lt := tm_lt t
    have hbp := hb p (by omega) lt
    refine pm_e_sim pm_a196_6 rfl ?_
    show pm_E _ _ _ 7 [(0, .ref 18), (1, .int (iI x)), (2, .int (iI w)), (3, .int (iI p))] [.int (iI w)] _ _ _ _
    refine pm_i_le (t := 153) pm_a196_7 rfl ⟨by omega, by omega⟩ (fun h_1 => ?_) (fun h_1 => ?_)
    · skip
      exfalso; omega
    · skip
      show pm_E _ _ _ 10 [(0, .ref 18), (1, .int (iI x)), (2, .int (iI w)), (3, .int (iI p))] [] _ _ _ _
      refine pm_e_sim pm_a196_10 rfl ?_
      show pm_E _ _ _ 11 [(0, .ref 18), (1, .int (iI x)), (2, .int (iI w)), (3, .int (iI p))] [.ref 18] _ _ _ _
      refine pm_e_sim pm_a196_11 rfl ?_
      show pm_E _ _ _ 12 [(0, .ref 18), (1, .int (iI x)), (2, .int (iI w)), (3, .int (iI p))] [.int (iI p), .ref 18] _ _ _ _
      refine pm_i_callv (k := 18) (T2 := pm_mm170) pm_a196_12 rfl rfl rfl (mh_get (j := 0) hA rfl) ⟨Nat.le_of_ble_eq_true rfl, Nat.le_of_ble_eq_true rfl, rfl, by decide +kernel⟩ ?_
      show pm_E none _ _ 0 [(0, .ref 18), (1, .int (iI p))] [] _ _ _ _
      refine M_endT (a := u4 a D P q F) hA hr t (by omega) (by omega) ?_
      show pm_E _ _ _ 15 [(0, .ref 18), (1, .int (iI x)), (2, .int (iI w)), (3, .int (iI p))] [.int (iI e)] _ _ _ _
      refine pm_e_sim pm_a196_15 rfl ?_
      show pm_E _ _ _ 17 [(0, .ref 18), (1, .int (iI x)), (2, .int (iI w)), (3, .int (iI p)), (4, .int (iI e))] [] _ _ _ _
      refine pm_e_sim pm_a196_17 rfl ?_
      show pm_E _ _ _ 18 [(0, .ref 18), (1, .int (iI x)), (2, .int (iI w)), (3, .int (iI p)), (4, .int (iI e))] [.ref 18] _ _ _ _
      refine pm_i_get pm_a196_18 rfl (mh_get (j := 0) hA rfl) rfl ?_
      show pm_E _ _ _ 21 [(0, .ref 18), (1, .int (iI x)), (2, .int (iI w)), (3, .int (iI p)), (4, .int (iI e))] [.ref 22] _ _ _ _
      refine pm_e_sim pm_a196_21 rfl ?_
      show pm_E _ _ _ 22 [(0, .ref 18), (1, .int (iI x)), (2, .int (iI w)), (3, .int (iI p)), (4, .int (iI e))] [.int (iI p), .ref 22] _ _ _ _
      refine pm_i_ald pm_a196_22 (mh_get (j := 4) hA rfl) (by omega) (by omega) ⟨by omega, by omega⟩ ?_
      show pm_E _ _ _ 23 [(0, .ref 18), (1, .int (iI x)), (2, .int (iI w)), (3, .int (iI p)), (4, .int (iI e))] [.int (iI ((a 4) (p)))] _ _ _ _
      refine pm_e_sim pm_a196_23 rfl ?_
      refine pm_e_top (y := iI 10) (by decide +kernel) ?_
      show pm_E _ _ _ 25 [(0, .ref 18), (1, .int (iI x)), (2, .int (iI w)), (3, .int (iI p)), (4, .int (iI e))] [.int (iI 10), .int (iI ((a 4) (p)))] _ _ _ _
      refine pm_c_ne (t := 42) pm_a196_25 rfl ⟨by omega, by omega⟩ ⟨by omega, by omega⟩ (fun h_2 => ?_) (fun h_2 => ?_)
      · skip
        show pm_E _ _ _ 42 [(0, .ref 18), (1, .int (iI x)), (2, .int (iI w)), (3, .int (iI p)), (4, .int (iI e))] [] _ _ _ _
        refine pm_e_sim pm_a196_42 rfl ?_
        show pm_E _ _ _ 43 [(0, .ref 18), (1, .int (iI x)), (2, .int (iI w)), (3, .int (iI p)), (4, .int (iI e))] [.ref 18] _ _ _ _
        refine pm_e_sim pm_a196_43 rfl ?_
        show pm_E _ _ _ 44 [(0, .ref 18), (1, .int (iI x)), (2, .int (iI w)), (3, .int (iI p)), (4, .int (iI e))] [.int (iI p), .ref 18] _ _ _ _
        refine pm_e_sim pm_a196_44 rfl ?_
        show pm_E _ _ _ 46 [(0, .ref 18), (1, .int (iI x)), (2, .int (iI w)), (3, .int (iI p)), (4, .int (iI e))] [.int (iI e), .int (iI p), .ref 18] _ _ _ _
        refine pm_i_callv (k := 18) (T2 := pm_mm197) pm_a196_46 rfl rfl rfl (mh_get (j := 0) hA rfl) ⟨Nat.le_of_ble_eq_true rfl, Nat.le_of_ble_eq_true rfl, rfl, by decide +kernel⟩ ?_
        show pm_E none _ _ 0 [(0, .ref 18), (1, .int (iI p)), (2, .int (iI e))] [] _ _ _ _
        refine M_hasNaught (a := u4 a D P q F) hA hr (by omega) (by omega) (by omega) ?_
        rcases nau_spec (g := a 4) (e := e) (f := (e - p).toNat) (p := p) (by omega) with ⟨hq, hnau⟩ | ⟨hq, hnau⟩
        · skip
          rw [show nau ((u4 a D P q F) 4) _ _ _ = 0 from hq]
          show pm_E _ _ _ 49 [(0, .ref 18), (1, .int (iI x)), (2, .int (iI w)), (3, .int (iI p)), (4, .int (iI e))] [.int (iI 0)] _ _ _ _
          refine pm_e_iff pm_a196_49 rfl (by decide +kernel) ?_
          show pm_E _ _ _ 52 [(0, .ref 18), (1, .int (iI x)), (2, .int (iI w)), (3, .int (iI p)), (4, .int (iI e))] [] _ _ _ _
          refine pm_e_sim pm_a196_52 rfl ?_
          show pm_E _ _ _ 53 [(0, .ref 18), (1, .int (iI x)), (2, .int (iI w)), (3, .int (iI p)), (4, .int (iI e))] [.ref 18] _ _ _ _
          refine pm_e_sim pm_a196_53 rfl ?_
          refine pm_e_top (y := iI 0) (by decide +kernel) ?_
          show pm_E _ _ _ 54 [(0, .ref 18), (1, .int (iI x)), (2, .int (iI w)), (3, .int (iI p)), (4, .int (iI e))] [.int (iI 0), .ref 18] _ _ _ _
          refine pm_i_callv (k := 18) (T2 := pm_mm185) pm_a196_54 rfl rfl rfl (mh_get (j := 0) hA rfl) ⟨Nat.le_of_ble_eq_true rfl, Nat.le_of_ble_eq_true rfl, rfl, by decide +kernel⟩ ?_
          show pm_E none _ _ 0 [(0, .ref 18), (1, .int (iI 0))] [] _ _ _ _
          refine M_addT (n := n) (F := F) hA (by omega) (by omega) ?_
          show pm_E _ _ _ 57 [(0, .ref 18), (1, .int (iI x)), (2, .int (iI w)), (3, .int (iI p)), (4, .int (iI e))] [] _ _ _ _
          refine pm_e_sim pm_a196_57 rfl ?_
          show pm_E _ _ _ 58 [(0, .ref 18), (1, .int (iI x)), (2, .int (iI w)), (3, .int (iI p)), (4, .int (iI e))] [.ref 18] _ _ _ _
          refine pm_e_sim pm_a196_58 rfl ?_
          refine pm_e_top (y := iI 3) (by decide +kernel) ?_
          show pm_E _ _ _ 59 [(0, .ref 18), (1, .int (iI x)), (2, .int (iI w)), (3, .int (iI p)), (4, .int (iI e))] [.int (iI 3), .ref 18] _ _ _ _
          refine pm_i_callv (k := 18) (T2 := pm_mm185) pm_a196_59 rfl rfl rfl (mh_get (j := 0) hA rfl) ⟨Nat.le_of_ble_eq_true rfl, Nat.le_of_ble_eq_true rfl, rfl, by decide +kernel⟩ ?_
          show pm_E none _ _ 0 [(0, .ref 18), (1, .int (iI 3))] [] _ _ _ _
          refine M_addT (n := n + 1) (F := laL F n ([0])) hA (by omega) (by omega) ?_
          refine pm_e_heap (show _ = (mh A (updS s 28 (n + 1 + 1)) vl (u4 a D P q (laL F n ([0] ++ [3]))) nm B) from by rw [laL_2 (by simp only [List.length_append, List.length_cons, List.length_nil, rg_len]; omega)]) ?_
          show pm_E _ _ _ 62 [(0, .ref 18), (1, .int (iI x)), (2, .int (iI w)), (3, .int (iI p)), (4, .int (iI e))] [] _ _ _ _
          refine pm_e_sim pm_a196_62 rfl ?_
          show pm_E _ _ _ 63 [(0, .ref 18), (1, .int (iI x)), (2, .int (iI w)), (3, .int (iI p)), (4, .int (iI e))] [.ref 18] _ _ _ _
          refine pm_e_sim pm_a196_63 rfl ?_
          show pm_E _ _ _ 64 [(0, .ref 18), (1, .int (iI x)), (2, .int (iI w)), (3, .int (iI p)), (4, .int (iI e))] [.int (iI p), .ref 18] _ _ _ _
          refine pm_e_sim pm_a196_64 rfl ?_
          show pm_E _ _ _ 66 [(0, .ref 18), (1, .int (iI x)), (2, .int (iI w)), (3, .int (iI p)), (4, .int (iI e))] [.int (iI e), .int (iI p), .ref 18] _ _ _ _
          refine pm_i_callv (k := 18) (T2 := pm_mm198) pm_a196_66 rfl rfl rfl (mh_get (j := 0) hA rfl) ⟨Nat.le_of_ble_eq_true rfl, Nat.le_of_ble_eq_true rfl, rfl, by decide +kernel⟩ ?_
          show pm_E none _ _ 0 [(0, .ref 18), (1, .int (iI p)), (2, .int (iI e))] [] _ _ _ _
          refine M_addLessT (n := n + 1 + 1) (F := laL F n ([0] ++ [3])) hA (by omega) (by omega) (by omega) (fun j z y => hb j (by omega) (by omega)) (by omega) (by omega) ?_
          refine pm_e_heap (show _ = (mh A (updS s 28 (n + 1 + 1 + (e - p))) vl (u4 a D P q (laL F n ([0] ++ [3] ++ rg (lsI (a 4)) (e - p).toNat p))) nm B) from by rw [laL_2 (by simp only [List.length_append, List.length_cons, List.length_nil, rg_len]; omega)]) ?_
          show pm_E _ _ _ 69 [(0, .ref 18), (1, .int (iI x)), (2, .int (iI w)), (3, .int (iI p)), (4, .int (iI e))] [] _ _ _ _
          refine pm_e_sim pm_a196_69 rfl ?_
          show pm_E _ _ _ 71 [(0, .ref 18), (1, .int (iI x)), (2, .int (iI w)), (3, .int (iI p)), (4, .int (iI e))] [.int (iI e)] _ _ _ _
          refine pm_e_sim pm_a196_71 rfl ?_
          show pm_E _ _ _ 72 [(0, .ref 18), (1, .int (iI x)), (2, .int (iI w)), (3, .int (iI e)), (4, .int (iI e))] [] _ _ _ _
          refine pm_e_inc (y := iI (w + (-1))) pm_a196_72 rfl (iI_add _ _) (by decide +kernel) rfl ?_
          show pm_E _ _ _ 75 [(0, .ref 18), (1, .int (iI x)), (2, .int (iI (w + (-1)))), (3, .int (iI e)), (4, .int (iI e))] [] _ _ _ _
          refine pm_e_goto pm_a196_75 rfl ?_
          show pm_E _ _ _ 150 [(0, .ref 18), (1, .int (iI x)), (2, .int (iI (w + (-1)))), (3, .int (iI e)), (4, .int (iI e))] [] _ _ _ _
          refine pm_e_goto pm_a196_150 rfl ?_
          show pm_E _ _ _ 6 [(0, .ref 18), (1, .int (iI x)), (2, .int (iI (w + (-1)))), (3, .int (iI e)), (4, .int (iI e))] [] _ _ _ _
          show pm_E _ _ _ 6 ([(0, .ref 18), (1, .int (iI x)), (2, .int (iI (w + (-1)))), (3, .int (iI e))] ++ [(4, .int (iI e))]) [] _ _ _ _
          refine pm_e_more [(4, .int (iI e))] (show ([0, 1, 2, 3, 4] : List Nat).Nodup from by decide) ?_
          exact k _ _ (Or.inr (Or.inl ⟨by omega, hnau, rfl⟩)) (by simp only [List.length_append, List.length_cons, List.length_nil, rg_len]; omega)
        · skip
          rw [show nau ((u4 a D P q F) 4) _ _ _ = 1 from hq]
          show pm_E _ _ _ 49 [(0, .ref 18), (1, .int (iI x)), (2, .int (iI w)), (3, .int (iI p)), (4, .int (iI e))] [.int (iI 1)] _ _ _ _
          refine pm_e_ift pm_a196_49 rfl (by decide +kernel) ?_
          show pm_E _ _ _ 78 [(0, .ref 18), (1, .int (iI x)), (2, .int (iI w)), (3, .int (iI p)), (4, .int (iI e))] [] _ _ _ _
          refine pm_e_sim pm_a196_78 rfl ?_
          show pm_E _ _ _ 79 [(0, .ref 18), (1, .int (iI x)), (2, .int (iI w)), (3, .int (iI p)), (4, .int (iI e))] [.ref 18] _ _ _ _
          refine pm_e_sim pm_a196_79 rfl ?_
          show pm_E _ _ _ 80 [(0, .ref 18), (1, .int (iI x)), (2, .int (iI w)), (3, .int (iI p)), (4, .int (iI e))] [.int (iI p), .ref 18] _ _ _ _
          refine pm_e_sim pm_a196_80 rfl ?_
          refine pm_e_top (y := iI 1) (by decide +kernel) ?_
          show pm_E _ _ _ 81 [(0, .ref 18), (1, .int (iI x)), (2, .int (iI w)), (3, .int (iI p)), (4, .int (iI e))] [.int (iI 1), .int (iI p), .ref 18] _ _ _ _
          refine pm_e_sim pm_a196_81 rfl ?_
          refine pm_e_top (y := iI (p + 1)) (iI_add _ _) ?_
          show pm_E _ _ _ 82 [(0, .ref 18), (1, .int (iI x)), (2, .int (iI w)), (3, .int (iI p)), (4, .int (iI e))] [.int (iI (p + 1)), .ref 18] _ _ _ _
          refine pm_i_callv (k := 18) (T2 := pm_mm170) pm_a196_82 rfl rfl rfl (mh_get (j := 0) hA rfl) ⟨Nat.le_of_ble_eq_true rfl, Nat.le_of_ble_eq_true rfl, rfl, by decide +kernel⟩ ?_
          show pm_E none _ _ 0 [(0, .ref 18), (1, .int (iI (p + 1)))] [] _ _ _ _
          have hg0 : a 4 p = 0 := by
            obtain ⟨j, j1, j2, j3⟩ := hnau
            have := hno p (by omega) lt
            have := hb p (by omega) lt
            by_cases z : 2 ≤ a 4 p
            · have := (tm_lf t z).1; have : j = p := by omega
              subst this; omega
            · omega
          obtain ⟨v, t1, t2⟩ : ∃ v, tm (a 4) f kk (p + 1) v ∧ tm (a 4) f kk v e := by
            obtain ⟨f1, v, t1, t2, ef⟩ := tm_app t hg0
            exact ⟨v, by rw [show f = f1 by omega]; exact t1, by rw [show f = f1 by omega]; exact t2⟩
          have l1 := tm_lt t1
          have l2 := tm_lt t2
          refine M_endT (a := u4 a D P q F) hA hr t1 (by omega) (by omega) ?_
          have hbv := hb v (by omega) (by omega)
          show pm_E _ _ _ 85 [(0, .ref 18), (1, .int (iI x)), (2, .int (iI w)), (3, .int (iI p)), (4, .int (iI e))] [.int (iI v)] _ _ _ _
          refine pm_e_sim pm_a196_85 rfl ?_
          show pm_E _ _ _ 87 [(0, .ref 18), (1, .int (iI x)), (2, .int (iI w)), (3, .int (iI p)), (4, .int (iI e)), (5, .int (iI v))] [] _ _ _ _
          refine pm_e_sim pm_a196_87 rfl ?_
          show pm_E _ _ _ 88 [(0, .ref 18), (1, .int (iI x)), (2, .int (iI w)), (3, .int (iI p)), (4, .int (iI e)), (5, .int (iI v))] [.ref 18] _ _ _ _
          refine pm_i_get pm_a196_88 rfl (mh_get (j := 0) hA rfl) rfl ?_
          show pm_E _ _ _ 91 [(0, .ref 18), (1, .int (iI x)), (2, .int (iI w)), (3, .int (iI p)), (4, .int (iI e)), (5, .int (iI v))] [.ref 22] _ _ _ _
          refine pm_e_sim pm_a196_91 rfl ?_
          show pm_E _ _ _ 93 [(0, .ref 18), (1, .int (iI x)), (2, .int (iI w)), (3, .int (iI p)), (4, .int (iI e)), (5, .int (iI v))] [.int (iI v), .ref 22] _ _ _ _
          refine pm_i_ald pm_a196_93 (mh_get (j := 4) hA rfl) (by omega) (by omega) ⟨by omega, by omega⟩ ?_
          show pm_E _ _ _ 94 [(0, .ref 18), (1, .int (iI x)), (2, .int (iI w)), (3, .int (iI p)), (4, .int (iI e)), (5, .int (iI v))] [.int (iI ((a 4) (v)))] _ _ _ _
          refine pm_e_sim pm_a196_94 rfl ?_
          refine pm_e_top (y := iI 10) (by decide +kernel) ?_
          show pm_E _ _ _ 96 [(0, .ref 18), (1, .int (iI x)), (2, .int (iI w)), (3, .int (iI p)), (4, .int (iI e)), (5, .int (iI v))] [.int (iI 10), .int (iI ((a 4) (v)))] _ _ _ _
          refine pm_c_ne (t := 129) pm_a196_96 rfl ⟨by omega, by omega⟩ ⟨by omega, by omega⟩ (fun h_3 => ?_) (fun h_3 => ?_)
          · skip
            show pm_E _ _ _ 129 [(0, .ref 18), (1, .int (iI x)), (2, .int (iI w)), (3, .int (iI p)), (4, .int (iI e)), (5, .int (iI v))] [] _ _ _ _
            refine pm_e_sim pm_a196_129 rfl ?_
            show pm_E _ _ _ 130 [(0, .ref 18), (1, .int (iI x)), (2, .int (iI w)), (3, .int (iI p)), (4, .int (iI e)), (5, .int (iI v))] [.ref 18] _ _ _ _
            refine pm_e_sim pm_a196_130 rfl ?_
            refine pm_e_top (y := iI 0) (by decide +kernel) ?_
            show pm_E _ _ _ 131 [(0, .ref 18), (1, .int (iI x)), (2, .int (iI w)), (3, .int (iI p)), (4, .int (iI e)), (5, .int (iI v))] [.int (iI 0), .ref 18] _ _ _ _
            refine pm_i_callv (k := 18) (T2 := pm_mm185) pm_a196_131 rfl rfl rfl (mh_get (j := 0) hA rfl) ⟨Nat.le_of_ble_eq_true rfl, Nat.le_of_ble_eq_true rfl, rfl, by decide +kernel⟩ ?_
            show pm_E none _ _ 0 [(0, .ref 18), (1, .int (iI 0))] [] _ _ _ _
            refine M_addT (n := n) (F := F) hA (by omega) (by omega) ?_
            show pm_E _ _ _ 134 [(0, .ref 18), (1, .int (iI x)), (2, .int (iI w)), (3, .int (iI p)), (4, .int (iI e)), (5, .int (iI v))] [] _ _ _ _
            refine pm_e_sim pm_a196_134 rfl ?_
            show pm_E _ _ _ 135 [(0, .ref 18), (1, .int (iI x)), (2, .int (iI w)), (3, .int (iI p)), (4, .int (iI e)), (5, .int (iI v))] [.ref 18] _ _ _ _
            refine pm_e_sim pm_a196_135 rfl ?_
            refine pm_e_top (y := iI 0) (by decide +kernel) ?_
            show pm_E _ _ _ 136 [(0, .ref 18), (1, .int (iI x)), (2, .int (iI w)), (3, .int (iI p)), (4, .int (iI e)), (5, .int (iI v))] [.int (iI 0), .ref 18] _ _ _ _
            refine pm_i_callv (k := 18) (T2 := pm_mm185) pm_a196_136 rfl rfl rfl (mh_get (j := 0) hA rfl) ⟨Nat.le_of_ble_eq_true rfl, Nat.le_of_ble_eq_true rfl, rfl, by decide +kernel⟩ ?_
            show pm_E none _ _ 0 [(0, .ref 18), (1, .int (iI 0))] [] _ _ _ _
            refine M_addT (n := n + 1) (F := laL F n ([0])) hA (by omega) (by omega) ?_
            refine pm_e_heap (show _ = (mh A (updS s 28 (n + 1 + 1)) vl (u4 a D P q (laL F n ([0] ++ [0]))) nm B) from by rw [laL_2 (by simp only [List.length_append, List.length_cons, List.length_nil, rg_len]; omega)]) ?_
            show pm_E _ _ _ 139 [(0, .ref 18), (1, .int (iI x)), (2, .int (iI w)), (3, .int (iI p)), (4, .int (iI e)), (5, .int (iI v))] [] _ _ _ _
            refine pm_e_sim pm_a196_139 rfl ?_
            show pm_E _ _ _ 140 [(0, .ref 18), (1, .int (iI x)), (2, .int (iI w)), (3, .int (iI p)), (4, .int (iI e)), (5, .int (iI v))] [.ref 18] _ _ _ _
            refine pm_e_sim pm_a196_140 rfl ?_
            refine pm_e_top (y := iI 2) (by decide +kernel) ?_
            show pm_E _ _ _ 141 [(0, .ref 18), (1, .int (iI x)), (2, .int (iI w)), (3, .int (iI p)), (4, .int (iI e)), (5, .int (iI v))] [.int (iI 2), .ref 18] _ _ _ _
            refine pm_i_callv (k := 18) (T2 := pm_mm185) pm_a196_141 rfl rfl rfl (mh_get (j := 0) hA rfl) ⟨Nat.le_of_ble_eq_true rfl, Nat.le_of_ble_eq_true rfl, rfl, by decide +kernel⟩ ?_
            show pm_E none _ _ 0 [(0, .ref 18), (1, .int (iI 2))] [] _ _ _ _
            refine M_addT (n := n + 1 + 1) (F := laL F n ([0] ++ [0])) hA (by omega) (by omega) ?_
            refine pm_e_heap (show _ = (mh A (updS s 28 (n + 1 + 1 + 1)) vl (u4 a D P q (laL F n ([0] ++ [0] ++ [2]))) nm B) from by rw [laL_2 (by simp only [List.length_append, List.length_cons, List.length_nil, rg_len]; omega)]) ?_
            show pm_E _ _ _ 144 [(0, .ref 18), (1, .int (iI x)), (2, .int (iI w)), (3, .int (iI p)), (4, .int (iI e)), (5, .int (iI v))] [] _ _ _ _
            refine pm_e_inc (y := iI (p + 1)) pm_a196_144 rfl (iI_add _ _) (by decide +kernel) rfl ?_
            show pm_E _ _ _ 147 [(0, .ref 18), (1, .int (iI x)), (2, .int (iI w)), (3, .int (iI (p + 1))), (4, .int (iI e)), (5, .int (iI v))] [] _ _ _ _
            refine pm_e_inc (y := iI (w + 1)) pm_a196_147 rfl (iI_add _ _) (by decide +kernel) rfl ?_
            show pm_E _ _ _ 150 [(0, .ref 18), (1, .int (iI x)), (2, .int (iI (w + 1))), (3, .int (iI (p + 1))), (4, .int (iI e)), (5, .int (iI v))] [] _ _ _ _
            refine pm_e_goto pm_a196_150 rfl ?_
            show pm_E _ _ _ 6 [(0, .ref 18), (1, .int (iI x)), (2, .int (iI (w + 1))), (3, .int (iI (p + 1))), (4, .int (iI e)), (5, .int (iI v))] [] _ _ _ _
            show pm_E _ _ _ 6 ([(0, .ref 18), (1, .int (iI x)), (2, .int (iI (w + 1))), (3, .int (iI (p + 1)))] ++ [(4, .int (iI e)), (5, .int (iI v))]) [] _ _ _ _
            refine pm_e_more [(4, .int (iI e)), (5, .int (iI v))] (show ([0, 1, 2, 3, 4, 5] : List Nat).Nodup from by decide) ?_
            refine ih t1 (fun j z y => hno j (by omega) (by omega)) (by omega) (by omega) (fun j z y => hb j (by omega) (by omega)) (w + 1) (n + 1 + 1 + 1) _ (by omega) (by omega) (by omega) (by omega) (fun r1 N1 a1 hN1 => ?_)
            have b1 := ab_len2 l1 a1
            rw [show w + 1 - 1 = w by omega]
            refine ih t2 (fun j z y => hno j (by omega) (by omega)) (by omega) (by omega) (fun j z y => hb j (by omega) (by omega)) w N1 _ (by omega) (by omega) (by omega) (by omega) (fun r2 N2 a2 hN2 => ?_)
            rw [laL_2 (by omega), laL_2 (by simp only [List.length_append, List.length_cons, List.length_nil, rg_len]; omega)]
            refine k _ _ (Or.inr (Or.inr ⟨hg0, hnau, v, ⟨_, _, t1⟩, ⟨_, _, t2⟩, Or.inr ⟨fun z => by omega, r1, r2, a1, a2, by simp only [List.cons_append, List.append_assoc, List.nil_append]⟩⟩)) (by simp only [List.length_append, List.length_cons, List.length_nil]; omega)
          · skip
            show pm_E _ _ _ 99 [(0, .ref 18), (1, .int (iI x)), (2, .int (iI w)), (3, .int (iI p)), (4, .int (iI e)), (5, .int (iI v))] [] _ _ _ _
            refine pm_e_sim pm_a196_99 rfl ?_
            show pm_E _ _ _ 100 [(0, .ref 18), (1, .int (iI x)), (2, .int (iI w)), (3, .int (iI p)), (4, .int (iI e)), (5, .int (iI v))] [.ref 18] _ _ _ _
            refine pm_e_sim pm_a196_100 rfl ?_
            show pm_E _ _ _ 101 [(0, .ref 18), (1, .int (iI x)), (2, .int (iI w)), (3, .int (iI p)), (4, .int (iI e)), (5, .int (iI v))] [.int (iI p), .ref 18] _ _ _ _
            refine pm_e_sim pm_a196_101 rfl ?_
            refine pm_e_top (y := iI 1) (by decide +kernel) ?_
            show pm_E _ _ _ 102 [(0, .ref 18), (1, .int (iI x)), (2, .int (iI w)), (3, .int (iI p)), (4, .int (iI e)), (5, .int (iI v))] [.int (iI 1), .int (iI p), .ref 18] _ _ _ _
            refine pm_e_sim pm_a196_102 rfl ?_
            refine pm_e_top (y := iI (p + 1)) (iI_add _ _) ?_
            show pm_E _ _ _ 103 [(0, .ref 18), (1, .int (iI x)), (2, .int (iI w)), (3, .int (iI p)), (4, .int (iI e)), (5, .int (iI v))] [.int (iI (p + 1)), .ref 18] _ _ _ _
            refine pm_e_sim pm_a196_103 rfl ?_
            show pm_E _ _ _ 105 [(0, .ref 18), (1, .int (iI x)), (2, .int (iI w)), (3, .int (iI p)), (4, .int (iI e)), (5, .int (iI v))] [.int (iI v), .int (iI (p + 1)), .ref 18] _ _ _ _
            refine pm_i_callv (k := 18) (T2 := pm_mm197) pm_a196_105 rfl rfl rfl (mh_get (j := 0) hA rfl) ⟨Nat.le_of_ble_eq_true rfl, Nat.le_of_ble_eq_true rfl, rfl, by decide +kernel⟩ ?_
            show pm_E none _ _ 0 [(0, .ref 18), (1, .int (iI (p + 1))), (2, .int (iI v))] [] _ _ _ _
            refine M_hasNaught (a := u4 a D P q F) hA hr (by omega) (by omega) (by omega) ?_
            rcases nau_spec (g := a 4) (e := v) (f := (v - (p + 1)).toNat) (p := p + 1) (by omega) with ⟨hq, hnav⟩ | ⟨hq, hnav⟩
            · skip
              rw [show nau ((u4 a D P q F) 4) _ _ _ = 0 from hq]
              show pm_E _ _ _ 108 [(0, .ref 18), (1, .int (iI x)), (2, .int (iI w)), (3, .int (iI p)), (4, .int (iI e)), (5, .int (iI v))] [.int (iI 0)] _ _ _ _
              refine pm_e_iff pm_a196_108 rfl (by decide +kernel) ?_
              show pm_E _ _ _ 111 [(0, .ref 18), (1, .int (iI x)), (2, .int (iI w)), (3, .int (iI p)), (4, .int (iI e)), (5, .int (iI v))] [] _ _ _ _
              refine pm_e_sim pm_a196_111 rfl ?_
              show pm_E _ _ _ 112 [(0, .ref 18), (1, .int (iI x)), (2, .int (iI w)), (3, .int (iI p)), (4, .int (iI e)), (5, .int (iI v))] [.ref 18] _ _ _ _
              refine pm_e_sim pm_a196_112 rfl ?_
              show pm_E _ _ _ 113 [(0, .ref 18), (1, .int (iI x)), (2, .int (iI w)), (3, .int (iI p)), (4, .int (iI e)), (5, .int (iI v))] [.int (iI p), .ref 18] _ _ _ _
              refine pm_e_sim pm_a196_113 rfl ?_
              refine pm_e_top (y := iI 1) (by decide +kernel) ?_
              show pm_E _ _ _ 114 [(0, .ref 18), (1, .int (iI x)), (2, .int (iI w)), (3, .int (iI p)), (4, .int (iI e)), (5, .int (iI v))] [.int (iI 1), .int (iI p), .ref 18] _ _ _ _
              refine pm_e_sim pm_a196_114 rfl ?_
              refine pm_e_top (y := iI (p + 1)) (iI_add _ _) ?_
              show pm_E _ _ _ 115 [(0, .ref 18), (1, .int (iI x)), (2, .int (iI w)), (3, .int (iI p)), (4, .int (iI e)), (5, .int (iI v))] [.int (iI (p + 1)), .ref 18] _ _ _ _
              refine pm_e_sim pm_a196_115 rfl ?_
              show pm_E _ _ _ 117 [(0, .ref 18), (1, .int (iI x)), (2, .int (iI w)), (3, .int (iI p)), (4, .int (iI e)), (5, .int (iI v))] [.int (iI v), .int (iI (p + 1)), .ref 18] _ _ _ _
              refine pm_i_callv (k := 18) (T2 := pm_mm198) pm_a196_117 rfl rfl rfl (mh_get (j := 0) hA rfl) ⟨Nat.le_of_ble_eq_true rfl, Nat.le_of_ble_eq_true rfl, rfl, by decide +kernel⟩ ?_
              show pm_E none _ _ 0 [(0, .ref 18), (1, .int (iI (p + 1))), (2, .int (iI v))] [] _ _ _ _
              refine M_addLessT (n := n) (F := F) hA (by omega) (by omega) (by omega) (fun j z y => hb j (by omega) (by omega)) (by omega) (by omega) ?_
              show pm_E _ _ _ 120 [(0, .ref 18), (1, .int (iI x)), (2, .int (iI w)), (3, .int (iI p)), (4, .int (iI e)), (5, .int (iI v))] [] _ _ _ _
              refine pm_e_sim pm_a196_120 rfl ?_
              show pm_E _ _ _ 122 [(0, .ref 18), (1, .int (iI x)), (2, .int (iI w)), (3, .int (iI p)), (4, .int (iI e)), (5, .int (iI v))] [.int (iI e)] _ _ _ _
              refine pm_e_sim pm_a196_122 rfl ?_
              show pm_E _ _ _ 123 [(0, .ref 18), (1, .int (iI x)), (2, .int (iI w)), (3, .int (iI e)), (4, .int (iI e)), (5, .int (iI v))] [] _ _ _ _
              refine pm_e_inc (y := iI (w + (-1))) pm_a196_123 rfl (iI_add _ _) (by decide +kernel) rfl ?_
              show pm_E _ _ _ 126 [(0, .ref 18), (1, .int (iI x)), (2, .int (iI (w + (-1)))), (3, .int (iI e)), (4, .int (iI e)), (5, .int (iI v))] [] _ _ _ _
              refine pm_e_goto pm_a196_126 rfl ?_
              show pm_E _ _ _ 150 [(0, .ref 18), (1, .int (iI x)), (2, .int (iI (w + (-1)))), (3, .int (iI e)), (4, .int (iI e)), (5, .int (iI v))] [] _ _ _ _
              refine pm_e_goto pm_a196_150 rfl ?_
              show pm_E _ _ _ 6 [(0, .ref 18), (1, .int (iI x)), (2, .int (iI (w + (-1)))), (3, .int (iI e)), (4, .int (iI e)), (5, .int (iI v))] [] _ _ _ _
              show pm_E _ _ _ 6 ([(0, .ref 18), (1, .int (iI x)), (2, .int (iI (w + (-1)))), (3, .int (iI e))] ++ [(4, .int (iI e)), (5, .int (iI v))]) [] _ _ _ _
              refine pm_e_more [(4, .int (iI e)), (5, .int (iI v))] (show ([0, 1, 2, 3, 4, 5] : List Nat).Nodup from by decide) ?_
              exact k _ _ (Or.inr (Or.inr ⟨hg0, hnau, v, ⟨_, _, t1⟩, ⟨_, _, t2⟩, Or.inl ⟨by omega, hnav, rfl⟩⟩)) (by simp only [List.length_append, List.length_cons, List.length_nil, rg_len]; omega)
            · skip
              rw [show nau ((u4 a D P q F) 4) _ _ _ = 1 from hq]
              show pm_E _ _ _ 108 [(0, .ref 18), (1, .int (iI x)), (2, .int (iI w)), (3, .int (iI p)), (4, .int (iI e)), (5, .int (iI v))] [.int (iI 1)] _ _ _ _
              refine pm_e_ift pm_a196_108 rfl (by decide +kernel) ?_
              show pm_E _ _ _ 129 [(0, .ref 18), (1, .int (iI x)), (2, .int (iI w)), (3, .int (iI p)), (4, .int (iI e)), (5, .int (iI v))] [] _ _ _ _
              refine pm_e_sim pm_a196_129 rfl ?_
              show pm_E _ _ _ 130 [(0, .ref 18), (1, .int (iI x)), (2, .int (iI w)), (3, .int (iI p)), (4, .int (iI e)), (5, .int (iI v))] [.ref 18] _ _ _ _
              refine pm_e_sim pm_a196_130 rfl ?_
              refine pm_e_top (y := iI 0) (by decide +kernel) ?_
              show pm_E _ _ _ 131 [(0, .ref 18), (1, .int (iI x)), (2, .int (iI w)), (3, .int (iI p)), (4, .int (iI e)), (5, .int (iI v))] [.int (iI 0), .ref 18] _ _ _ _
              refine pm_i_callv (k := 18) (T2 := pm_mm185) pm_a196_131 rfl rfl rfl (mh_get (j := 0) hA rfl) ⟨Nat.le_of_ble_eq_true rfl, Nat.le_of_ble_eq_true rfl, rfl, by decide +kernel⟩ ?_
              show pm_E none _ _ 0 [(0, .ref 18), (1, .int (iI 0))] [] _ _ _ _
              refine M_addT (n := n) (F := F) hA (by omega) (by omega) ?_
              show pm_E _ _ _ 134 [(0, .ref 18), (1, .int (iI x)), (2, .int (iI w)), (3, .int (iI p)), (4, .int (iI e)), (5, .int (iI v))] [] _ _ _ _
              refine pm_e_sim pm_a196_134 rfl ?_
              show pm_E _ _ _ 135 [(0, .ref 18), (1, .int (iI x)), (2, .int (iI w)), (3, .int (iI p)), (4, .int (iI e)), (5, .int (iI v))] [.ref 18] _ _ _ _
              refine pm_e_sim pm_a196_135 rfl ?_
              refine pm_e_top (y := iI 0) (by decide +kernel) ?_
              show pm_E _ _ _ 136 [(0, .ref 18), (1, .int (iI x)), (2, .int (iI w)), (3, .int (iI p)), (4, .int (iI e)), (5, .int (iI v))] [.int (iI 0), .ref 18] _ _ _ _
              refine pm_i_callv (k := 18) (T2 := pm_mm185) pm_a196_136 rfl rfl rfl (mh_get (j := 0) hA rfl) ⟨Nat.le_of_ble_eq_true rfl, Nat.le_of_ble_eq_true rfl, rfl, by decide +kernel⟩ ?_
              show pm_E none _ _ 0 [(0, .ref 18), (1, .int (iI 0))] [] _ _ _ _
              refine M_addT (n := n + 1) (F := laL F n ([0])) hA (by omega) (by omega) ?_
              refine pm_e_heap (show _ = (mh A (updS s 28 (n + 1 + 1)) vl (u4 a D P q (laL F n ([0] ++ [0]))) nm B) from by rw [laL_2 (by simp only [List.length_append, List.length_cons, List.length_nil, rg_len]; omega)]) ?_
              show pm_E _ _ _ 139 [(0, .ref 18), (1, .int (iI x)), (2, .int (iI w)), (3, .int (iI p)), (4, .int (iI e)), (5, .int (iI v))] [] _ _ _ _
              refine pm_e_sim pm_a196_139 rfl ?_
              show pm_E _ _ _ 140 [(0, .ref 18), (1, .int (iI x)), (2, .int (iI w)), (3, .int (iI p)), (4, .int (iI e)), (5, .int (iI v))] [.ref 18] _ _ _ _
              refine pm_e_sim pm_a196_140 rfl ?_
              refine pm_e_top (y := iI 2) (by decide +kernel) ?_
              show pm_E _ _ _ 141 [(0, .ref 18), (1, .int (iI x)), (2, .int (iI w)), (3, .int (iI p)), (4, .int (iI e)), (5, .int (iI v))] [.int (iI 2), .ref 18] _ _ _ _
              refine pm_i_callv (k := 18) (T2 := pm_mm185) pm_a196_141 rfl rfl rfl (mh_get (j := 0) hA rfl) ⟨Nat.le_of_ble_eq_true rfl, Nat.le_of_ble_eq_true rfl, rfl, by decide +kernel⟩ ?_
              show pm_E none _ _ 0 [(0, .ref 18), (1, .int (iI 2))] [] _ _ _ _
              refine M_addT (n := n + 1 + 1) (F := laL F n ([0] ++ [0])) hA (by omega) (by omega) ?_
              refine pm_e_heap (show _ = (mh A (updS s 28 (n + 1 + 1 + 1)) vl (u4 a D P q (laL F n ([0] ++ [0] ++ [2]))) nm B) from by rw [laL_2 (by simp only [List.length_append, List.length_cons, List.length_nil, rg_len]; omega)]) ?_
              show pm_E _ _ _ 144 [(0, .ref 18), (1, .int (iI x)), (2, .int (iI w)), (3, .int (iI p)), (4, .int (iI e)), (5, .int (iI v))] [] _ _ _ _
              refine pm_e_inc (y := iI (p + 1)) pm_a196_144 rfl (iI_add _ _) (by decide +kernel) rfl ?_
              show pm_E _ _ _ 147 [(0, .ref 18), (1, .int (iI x)), (2, .int (iI w)), (3, .int (iI (p + 1))), (4, .int (iI e)), (5, .int (iI v))] [] _ _ _ _
              refine pm_e_inc (y := iI (w + 1)) pm_a196_147 rfl (iI_add _ _) (by decide +kernel) rfl ?_
              show pm_E _ _ _ 150 [(0, .ref 18), (1, .int (iI x)), (2, .int (iI (w + 1))), (3, .int (iI (p + 1))), (4, .int (iI e)), (5, .int (iI v))] [] _ _ _ _
              refine pm_e_goto pm_a196_150 rfl ?_
              show pm_E _ _ _ 6 [(0, .ref 18), (1, .int (iI x)), (2, .int (iI (w + 1))), (3, .int (iI (p + 1))), (4, .int (iI e)), (5, .int (iI v))] [] _ _ _ _
              show pm_E _ _ _ 6 ([(0, .ref 18), (1, .int (iI x)), (2, .int (iI (w + 1))), (3, .int (iI (p + 1)))] ++ [(4, .int (iI e)), (5, .int (iI v))]) [] _ _ _ _
              refine pm_e_more [(4, .int (iI e)), (5, .int (iI v))] (show ([0, 1, 2, 3, 4, 5] : List Nat).Nodup from by decide) ?_
              refine ih t1 (fun j z y => hno j (by omega) (by omega)) (by omega) (by omega) (fun j z y => hb j (by omega) (by omega)) (w + 1) (n + 1 + 1 + 1) _ (by omega) (by omega) (by omega) (by omega) (fun r1 N1 a1 hN1 => ?_)
              have b1 := ab_len2 l1 a1
              rw [show w + 1 - 1 = w by omega]
              refine ih t2 (fun j z y => hno j (by omega) (by omega)) (by omega) (by omega) (fun j z y => hb j (by omega) (by omega)) w N1 _ (by omega) (by omega) (by omega) (by omega) (fun r2 N2 a2 hN2 => ?_)
              rw [laL_2 (by omega), laL_2 (by simp only [List.length_append, List.length_cons, List.length_nil, rg_len]; omega)]
              refine k _ _ (Or.inr (Or.inr ⟨hg0, hnau, v, ⟨_, _, t1⟩, ⟨_, _, t2⟩, Or.inr ⟨fun z => by obtain ⟨j, j1, j2, j3⟩ := hnav; exact absurd j3 (z.2 j j1 j2), r1, r2, a1, a2, by simp only [List.cons_append, List.append_assoc, List.nil_append]⟩⟩)) (by simp only [List.length_append, List.length_cons, List.length_nil]; omega)
      · skip
        show pm_E _ _ _ 28 [(0, .ref 18), (1, .int (iI x)), (2, .int (iI w)), (3, .int (iI p)), (4, .int (iI e))] [] _ _ _ _
        refine pm_e_sim pm_a196_28 rfl ?_
        show pm_E _ _ _ 29 [(0, .ref 18), (1, .int (iI x)), (2, .int (iI w)), (3, .int (iI p)), (4, .int (iI e))] [.ref 18] _ _ _ _
        refine pm_e_sim pm_a196_29 rfl ?_
        refine pm_e_top (y := iI 4) (by decide +kernel) ?_
        show pm_E _ _ _ 30 [(0, .ref 18), (1, .int (iI x)), (2, .int (iI w)), (3, .int (iI p)), (4, .int (iI e))] [.int (iI 4), .ref 18] _ _ _ _
        refine pm_i_callv (k := 18) (T2 := pm_mm185) pm_a196_30 rfl rfl rfl (mh_get (j := 0) hA rfl) ⟨Nat.le_of_ble_eq_true rfl, Nat.le_of_ble_eq_true rfl, rfl, by decide +kernel⟩ ?_
        show pm_E none _ _ 0 [(0, .ref 18), (1, .int (iI 4))] [] _ _ _ _
        refine M_addT (n := n) (F := F) hA (by omega) (by omega) ?_
        show pm_E _ _ _ 33 [(0, .ref 18), (1, .int (iI x)), (2, .int (iI w)), (3, .int (iI p)), (4, .int (iI e))] [] _ _ _ _
        refine pm_e_sim pm_a196_33 rfl ?_
        show pm_E _ _ _ 35 [(0, .ref 18), (1, .int (iI x)), (2, .int (iI w)), (3, .int (iI p)), (4, .int (iI e))] [.int (iI e)] _ _ _ _
        refine pm_e_sim pm_a196_35 rfl ?_
        show pm_E _ _ _ 36 [(0, .ref 18), (1, .int (iI x)), (2, .int (iI w)), (3, .int (iI e)), (4, .int (iI e))] [] _ _ _ _
        refine pm_e_inc (y := iI (w + (-1))) pm_a196_36 rfl (iI_add _ _) (by decide +kernel) rfl ?_
        show pm_E _ _ _ 39 [(0, .ref 18), (1, .int (iI x)), (2, .int (iI (w + (-1)))), (3, .int (iI e)), (4, .int (iI e))] [] _ _ _ _
        refine pm_e_goto pm_a196_39 rfl ?_
        show pm_E _ _ _ 150 [(0, .ref 18), (1, .int (iI x)), (2, .int (iI (w + (-1)))), (3, .int (iI e)), (4, .int (iI e))] [] _ _ _ _
        refine pm_e_goto pm_a196_150 rfl ?_
        show pm_E _ _ _ 6 [(0, .ref 18), (1, .int (iI x)), (2, .int (iI (w + (-1)))), (3, .int (iI e)), (4, .int (iI e))] [] _ _ _ _
        show pm_E _ _ _ 6 ([(0, .ref 18), (1, .int (iI x)), (2, .int (iI (w + (-1)))), (3, .int (iI e))] ++ [(4, .int (iI e))]) [] _ _ _ _
        refine pm_e_more [(4, .int (iI e))] (show ([0, 1, 2, 3, 4] : List Nat).Nodup from by decide) ?_
        exact k _ _ (Or.inl ⟨by omega, (tm_lf t (by omega)).1, rfl⟩) (by simp only [List.length_append, List.length_cons, List.length_nil, rg_len]; omega)
set_option maxHeartbeats 4000000 in
set_option maxRecDepth 100000 in
theorem M_abstracts {d : Nat} {A B : List va_E} {s : Nat → Int} {vl : Int64} {a : Nat → Int → Int} {nm : Nat → Int64} {Q : Option Value → List va_E → Nat → Nat → Prop} {D P q : Int → Int} {x : Int} {k0 e n : Int} {f : Nat} {F : Int → Int} (hA : A.length = 18) (hr : ∀ j, in32 (a 4 j)) (t : tm (a 4) f k0 (x + 1) e) (hno : ∀ j, x + 1 ≤ j → j < e → a 4 j ≠ 1) (hx0 : 0 ≤ x) (he : e ≤ 11000) (hb : ∀ j, x + 1 ≤ j → j < e → 0 ≤ a 4 j ∧ a 4 j ≤ 100000) (hn0 : 0 ≤ n) (hn1 : n ≤ 100) (k : ∀ r N, ab (a 4) f (x + 1) e r → N = n + (r.length : Int) → Q none (mh A (updS s 28 N) vl (u4 a D P q (laL F n r)) nm B) 0 0) : pm_E none (d + 2) pm_mm196 0 [(0, .ref 18), (1, .int (iI x))] [] (mh A (updS s 28 (n)) vl (u4 a D P q (F)) nm B) 0 0 Q := by
  refine pm_e_sim pm_a196_0 rfl ?_
  refine pm_e_top (y := iI 1) (by decide +kernel) ?_
  show pm_E _ _ _ 1 [(0, .ref 18), (1, .int (iI x))] [.int (iI 1)] _ _ _ _
  refine pm_e_sim pm_a196_1 rfl ?_
  show pm_E _ _ _ 2 [(0, .ref 18), (1, .int (iI x)), (2, .int (iI 1))] [] _ _ _ _
  refine pm_e_sim pm_a196_2 rfl ?_
  show pm_E _ _ _ 3 [(0, .ref 18), (1, .int (iI x)), (2, .int (iI 1))] [.int (iI x)] _ _ _ _
  refine pm_e_sim pm_a196_3 rfl ?_
  refine pm_e_top (y := iI 1) (by decide +kernel) ?_
  show pm_E _ _ _ 4 [(0, .ref 18), (1, .int (iI x)), (2, .int (iI 1))] [.int (iI 1), .int (iI x)] _ _ _ _
  refine pm_e_sim pm_a196_4 rfl ?_
  refine pm_e_top (y := iI (x + 1)) (iI_add _ _) ?_
  show pm_E _ _ _ 5 [(0, .ref 18), (1, .int (iI x)), (2, .int (iI 1))] [.int (iI (x + 1))] _ _ _ _
  refine pm_e_sim pm_a196_5 rfl ?_
  show pm_E _ _ _ 6 [(0, .ref 18), (1, .int (iI x)), (2, .int (iI 1)), (3, .int (iI (x + 1)))] [] _ _ _ _
  refine M_abstracts_l hA hr f t hno (by omega) he hb 1 n F (by omega) (by omega) (by omega) (by omega) (fun r N ab1 hN => ?_)
  show pm_E _ _ _ 6 [(0, .ref 18), (1, .int (iI x)), (2, .int (iI 0)), (3, .int (iI e))] [] _ _ _ _
  refine pm_e_sim pm_a196_6 rfl ?_
  show pm_E _ _ _ 7 [(0, .ref 18), (1, .int (iI x)), (2, .int (iI 0)), (3, .int (iI e))] [.int (iI 0)] _ _ _ _
  refine pm_e_ift pm_a196_7 rfl (by decide +kernel) ?_
  show pm_E _ _ _ 153 [(0, .ref 18), (1, .int (iI x)), (2, .int (iI 0)), (3, .int (iI e))] [] _ _ _ _
  refine pm_e_ret pm_a196_153 rfl rfl rfl rfl rfl rfl rfl rfl ?_
  exact k r N ab1 hN
