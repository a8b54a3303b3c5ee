/-! THE REFERENCE: addAll, hasNaught, count0, hasWithin -/
set_option maxHeartbeats 4000000 in
set_option maxRecDepth 100000 in
theorem M_addAll {d : Nat} {A B : List va_E} {s : Nat → Int} {vl : Int64} {a : Nat → Int → Int} {nm : Nat → Int64} {Q : Option Value → List va_E → Nat → Nat → Prop} {x e : Int} (hA : A.length = 18) (hx : 0 ≤ x) (hxe : x ≤ e) (he : e ≤ 12000) (h0 : 0 ≤ s 28) (h1 : s 28 ≤ 900000000) (k : Q none (mh A (updS s 28 (s 28 + (e - x))) vl (updA a 15 (adI (a 15) (a 4) (s 28) x e)) nm B) 0 0) : pm_E none (d + 1) pm_mm184 0 [(0, .ref 18), (1, .int (iI x)), (2, .int (iI e))] [] (mh A s vl a nm B) 0 0 Q := by
  refine pm_e_sim pm_a184_0 rfl ?_
  show pm_E _ _ _ 1 [(0, .ref 18), (1, .int (iI x)), (2, .int (iI e))] [.int (iI x)] _ _ _ _
  refine pm_e_sim pm_a184_1 rfl ?_
  show pm_E _ _ _ 2 [(0, .ref 18), (1, .int (iI x)), (2, .int (iI e)), (3, .int (iI x))] [] _ _ _ _
  refine pm_e_heap (show mh A s vl a nm B = mh A (updS s 28 (s 28)) vl (updA a 15 (a 15)) nm B from by rw [updS_self, updA_self]) ?_
  exact M_addAll_l hA he (e - x).toNat x (s 28) (a 15) hx (by omega) h0 (by omega) he k
set_option maxHeartbeats 4000000 in
set_option maxRecDepth 100000 in
theorem M_hasNaught {d : Nat} {A B : List va_E} {s : Nat → Int} {vl : Int64} {a : Nat → Int → Int} {nm : Nat → Int64} {Q : Option Value → List va_E → Nat → Nat → Prop} {x e : Int} (hA : A.length = 18) (hr : ∀ j, in32 (a 4 j)) (hx : 0 ≤ x) (hxe : x ≤ e) (he : e ≤ 12000) (k : Q (some (.int (iI (nau (a 4) e (e - x).toNat x)))) (mh A s vl a nm B) 0 0) : pm_E none d pm_mm197 0 [(0, .ref 18), (1, .int (iI x)), (2, .int (iI e))] [] (mh A s vl a nm B) 0 0 Q := by
  refine pm_e_sim pm_a197_0 rfl ?_
  show pm_E _ _ _ 1 [(0, .ref 18), (1, .int (iI x)), (2, .int (iI e))] [.int (iI x)] _ _ _ _
  refine pm_e_sim pm_a197_1 rfl ?_
  show pm_E _ _ _ 2 [(0, .ref 18), (1, .int (iI x)), (2, .int (iI e)), (3, .int (iI x))] [] _ _ _ _
  exact M_hasNaught_l hA hr he (e - x).toNat x hx hxe (by omega) k
/-- how many redexes from p to sz, with n before -/
def cnt (g : Int → Int) (sz : Int) : Nat → Int → Int → Int
  | 0, _, n => n
  | f + 1, p, n => if sz ≤ p then n else cnt g sz f (p + 1) (n + rdx g p)
theorem cnt_e {g : Int → Int} {sz p n : Int} {f : Nat} (h : sz ≤ p) : cnt g sz f p n = n := by
  cases f with
  | zero => rfl
  | succ f => rw [cnt, if_pos h]
theorem cnt_s {g : Int → Int} {sz p n r : Int} {f : Nat} (h : p < sz) (hr : rdx g p = r) : cnt g sz (f + 1) p n = cnt g sz f (p + 1) (n + r) := by rw [cnt, if_neg (by omega), hr]
set_option maxHeartbeats 4000000 in
set_option maxRecDepth 100000 in
theorem M_count0_l {d : Nat} {A B : List va_E} {s : Nat → Int} {vl : Int64} {a : Nat → Int → Int} {nm : Nat → Int64} {Q : Option Value → List va_E → Nat → Nat → Prop} (hA : A.length = 18) (hr : ∀ j, in32 (a 4 j)) (h6 : 0 ≤ s 6) (h7 : s 6 ≤ 500) : ∀ (f : Nat) (p n : Int), 0 ≤ p → p + f = s 6 → 0 ≤ n → n + f ≤ 1000 → Q (some (.int (iI (cnt (a 4) (s 6) f p n)))) (mh A s vl a nm B) 0 0 → pm_E none (d + 1) pm_mm193 4 [(0, .ref 18), (1, .int (iI n)), (2, .int (iI p))] [] (mh A s vl a nm B) 0 0 Q := by
  intro f
  induction f with
  | zero =>
    intro p n h0 h1 h2 h3 k
    refine pm_e_sim pm_a193_4 rfl ?_
    show pm_E _ _ _ 5 [(0, .ref 18), (1, .int (iI n)), (2, .int (iI p))] [.int (iI p)] _ _ _ _
    refine pm_e_sim pm_a193_5 rfl ?_
    show pm_E _ _ _ 6 [(0, .ref 18), (1, .int (iI n)), (2, .int (iI p))] [.ref 18, .int (iI p)] _ _ _ _
    refine pm_i_get pm_a193_6 rfl (mh_get (j := 0) hA rfl) rfl ?_
    show pm_E _ _ _ 9 [(0, .ref 18), (1, .int (iI n)), (2, .int (iI p))] [.int (iI (s 6)), .int (iI p)] _ _ _ _
    refine pm_c_ge (t := 34) pm_a193_9 rfl ⟨by omega, by omega⟩ ⟨by omega, by omega⟩ (fun h_1 => ?_) (fun h_1 => ?_)
    · skip
      show pm_E _ _ _ 34 [(0, .ref 18), (1, .int (iI n)), (2, .int (iI p))] [] _ _ _ _
      refine pm_e_sim pm_a193_34 rfl ?_
      show pm_E _ _ _ 35 [(0, .ref 18), (1, .int (iI n)), (2, .int (iI p))] [.int (iI n)] _ _ _ _
      refine pm_e_ret pm_a193_35 rfl rfl rfl rfl rfl rfl rfl rfl ?_
      rw [cnt_e (by omega)] at k
      exact k
    · skip
      exfalso; omega
  | succ f ih =>
    intro p n h0 h1 h2 h3 k
    refine pm_e_sim pm_a193_4 rfl ?_
    show pm_E _ _ _ 5 [(0, .ref 18), (1, .int (iI n)), (2, .int (iI p))] [.int (iI p)] _ _ _ _
    refine pm_e_sim pm_a193_5 rfl ?_
    show pm_E _ _ _ 6 [(0, .ref 18), (1, .int (iI n)), (2, .int (iI p))] [.ref 18, .int (iI p)] _ _ _ _
    refine pm_i_get pm_a193_6 rfl (mh_get (j := 0) hA rfl) rfl ?_
    show pm_E _ _ _ 9 [(0, .ref 18), (1, .int (iI n)), (2, .int (iI p))] [.int (iI (s 6)), .int (iI p)] _ _ _ _
    refine pm_c_ge (t := 34) pm_a193_9 rfl ⟨by omega, by omega⟩ ⟨by omega, by omega⟩ (fun h_1 => ?_) (fun h_1 => ?_)
    · skip
      exfalso; omega
    · skip
      show pm_E _ _ _ 12 [(0, .ref 18), (1, .int (iI n)), (2, .int (iI p))] [] _ _ _ _
      refine pm_e_sim pm_a193_12 rfl ?_
      show pm_E _ _ _ 13 [(0, .ref 18), (1, .int (iI n)), (2, .int (iI p))] [.int (iI n)] _ _ _ _
      refine pm_e_sim pm_a193_13 rfl ?_
      show pm_E _ _ _ 14 [(0, .ref 18), (1, .int (iI n)), (2, .int (iI p))] [.ref 18, .int (iI n)] _ _ _ _
      refine pm_e_sim pm_a193_14 rfl ?_
      show pm_E _ _ _ 15 [(0, .ref 18), (1, .int (iI n)), (2, .int (iI p))] [.int (iI p), .ref 18, .int (iI n)] _ _ _ _
      refine pm_i_callv (k := 18) (T2 := pm_mm180) pm_a193_15 rfl rfl rfl (mh_get (j := 0) hA rfl) ⟨Nat.le_of_ble_eq_true rfl, Nat.le_of_ble_eq_true rfl, rfl, by decide +kernel⟩ ?_
      show pm_E none _ _ 0 [(0, .ref 18), (1, .int (iI p))] [] _ _ _ _
      refine M_isRedex hA hr (by omega) (by omega) (fun r1 e1 => ?_)
      have b1 := rdx_in (a 4) (p)
      rw [e1] at b1
      show pm_E _ _ _ 18 [(0, .ref 18), (1, .int (iI n)), (2, .int (iI p))] [.int (iI r1), .int (iI n)] _ _ _ _
      refine pm_i_eq (t := 25) pm_a193_18 rfl ⟨by omega, by omega⟩ (fun h_2 => ?_) (fun h_2 => ?_)
      · skip
        show pm_E _ _ _ 25 [(0, .ref 18), (1, .int (iI n)), (2, .int (iI p))] [.int (iI n)] _ _ _ _
        refine pm_e_sim pm_a193_25 rfl ?_
        refine pm_e_top (y := iI 0) (by decide +kernel) ?_
        show pm_E _ _ _ 26 [(0, .ref 18), (1, .int (iI n)), (2, .int (iI p))] [.int (iI 0), .int (iI n)] _ _ _ _
        refine pm_e_sim pm_a193_26 rfl ?_
        refine pm_e_top (y := iI (n + 0)) (iI_add _ _) ?_
        show pm_E _ _ _ 27 [(0, .ref 18), (1, .int (iI n)), (2, .int (iI p))] [.int (iI (n + 0))] _ _ _ _
        refine pm_e_sim pm_a193_27 rfl ?_
        show pm_E _ _ _ 28 [(0, .ref 18), (1, .int (iI (n + 0))), (2, .int (iI p))] [] _ _ _ _
        refine pm_e_inc (y := iI (p + 1)) pm_a193_28 rfl (iI_add _ _) (by decide +kernel) rfl ?_
        show pm_E _ _ _ 31 [(0, .ref 18), (1, .int (iI (n + 0))), (2, .int (iI (p + 1)))] [] _ _ _ _
        refine pm_e_goto pm_a193_31 rfl ?_
        show pm_E _ _ _ 4 [(0, .ref 18), (1, .int (iI (n + 0))), (2, .int (iI (p + 1)))] [] _ _ _ _
        rw [cnt_s (r := 0) (by omega) (by omega)] at k
        exact ih (p + 1) _ (by omega) (by omega) (by omega) (by omega) k
      · skip
        show pm_E _ _ _ 21 [(0, .ref 18), (1, .int (iI n)), (2, .int (iI p))] [.int (iI n)] _ _ _ _
        refine pm_e_sim pm_a193_21 rfl ?_
        refine pm_e_top (y := iI 1) (by decide +kernel) ?_
        show pm_E _ _ _ 22 [(0, .ref 18), (1, .int (iI n)), (2, .int (iI p))] [.int (iI 1), .int (iI n)] _ _ _ _
        refine pm_e_goto pm_a193_22 rfl ?_
        show pm_E _ _ _ 26 [(0, .ref 18), (1, .int (iI n)), (2, .int (iI p))] [.int (iI 1), .int (iI n)] _ _ _ _
        refine pm_e_sim pm_a193_26 rfl ?_
        refine pm_e_top (y := iI (n + 1)) (iI_add _ _) ?_
        show pm_E _ _ _ 27 [(0, .ref 18), (1, .int (iI n)), (2, .int (iI p))] [.int (iI (n + 1))] _ _ _ _
        refine pm_e_sim pm_a193_27 rfl ?_
        show pm_E _ _ _ 28 [(0, .ref 18), (1, .int (iI (n + 1))), (2, .int (iI p))] [] _ _ _ _
        refine pm_e_inc (y := iI (p + 1)) pm_a193_28 rfl (iI_add _ _) (by decide +kernel) rfl ?_
        show pm_E _ _ _ 31 [(0, .ref 18), (1, .int (iI (n + 1))), (2, .int (iI (p + 1)))] [] _ _ _ _
        refine pm_e_goto pm_a193_31 rfl ?_
        show pm_E _ _ _ 4 [(0, .ref 18), (1, .int (iI (n + 1))), (2, .int (iI (p + 1)))] [] _ _ _ _
        rw [cnt_s (r := 1) (by omega) (by omega)] at k
        exact ih (p + 1) _ (by omega) (by omega) (by omega) (by omega) k
set_option maxHeartbeats 4000000 in
set_option maxRecDepth 100000 in
theorem M_count0 {d : Nat} {A B : List va_E} {s : Nat → Int} {vl : Int64} {a : Nat → Int → Int} {nm : Nat → Int64} {Q : Option Value → List va_E → Nat → Nat → Prop} (hA : A.length = 18) (hr : ∀ j, in32 (a 4 j)) (h6 : 0 ≤ s 6) (h7 : s 6 ≤ 500) (k : Q (some (.int (iI (cnt (a 4) (s 6) (s 6).toNat 0 0)))) (mh A s vl a nm B) 0 0) : pm_E none (d + 1) pm_mm193 0 [(0, .ref 18)] [] (mh A s vl a nm B) 0 0 Q := by
  refine pm_e_sim pm_a193_0 rfl ?_
  refine pm_e_top (y := iI 0) (by decide +kernel) ?_
  show pm_E _ _ _ 1 [(0, .ref 18)] [.int (iI 0)] _ _ _ _
  refine pm_e_sim pm_a193_1 rfl ?_
  show pm_E _ _ _ 2 [(0, .ref 18), (1, .int (iI 0))] [] _ _ _ _
  refine pm_e_sim pm_a193_2 rfl ?_
  refine pm_e_top (y := iI 0) (by decide +kernel) ?_
  show pm_E _ _ _ 3 [(0, .ref 18), (1, .int (iI 0))] [.int (iI 0)] _ _ _ _
  refine pm_e_sim pm_a193_3 rfl ?_
  show pm_E _ _ _ 4 [(0, .ref 18), (1, .int (iI 0)), (2, .int (iI 0))] [] _ _ _ _
  exact M_count0_l hA hr h6 h7 (s 6).toNat 0 0 (by omega) (by omega) (by omega) (by omega) k
