/-! THE REFERENCE: say, sayName, sayTerm, letter -/
theorem pm_bd_c {f : Int32 → Int32 → Int32} {x y : Int32} {lv : pm_L} {r : List Value} (h : y ≠ 0) : pm_bd f lv (.int y :: .int x :: r) = some (lv, .int (f x y) :: r) := if_neg h
theorem pm_e_hav {scr : Option (Nat × (Nat → Int32))} {d : Nat} {T : pm_M} {pc : Nat} {lv : pm_L} {st : List Value} {ph : List va_E} {nc ns : Nat} {Q : Option Value → List va_E → Nat → Nat → Prop} {x : Int32} (k : ∀ z, in32 z → pm_E scr d T pc lv (.int (iI z) :: st) ph nc ns Q) : pm_E scr d T pc lv (.int x :: st) ph nc ns Q := by
  have := k x.toInt (in32_of x)
  rw [iI_of] at this
  exact this
theorem pm_i_div {scr : Option (Nat × (Nat → Int32))} {d : Nat} {T : pm_M} {pc : Nat} {lv : pm_L} {st : List Value} {ph : List va_E} {nc ns : Nat} {Q : Option Value → List va_E → Nat → Nat → Prop} {x y : Int32} {len : Nat} (h0 : pm_as (pm_cd T) pc = some (.idiv, len)) (hy : y ≠ 0) (k : ∀ z, in32 z → pm_E scr d T (pc + 1) lv (.int (iI z) :: st) ph nc ns Q) : pm_E scr d T pc lv (.int y :: .int x :: st) ph nc ns Q :=
  pm_e_sim h0 (show pm_bd _ _ _ = _ from pm_bd_c hy) (pm_e_hav k)
theorem pm_i_rem {scr : Option (Nat × (Nat → Int32))} {d : Nat} {T : pm_M} {pc : Nat} {lv : pm_L} {st : List Value} {ph : List va_E} {nc ns : Nat} {Q : Option Value → List va_E → Nat → Nat → Prop} {x y : Int32} {len : Nat} (h0 : pm_as (pm_cd T) pc = some (.irem, len)) (hy : y ≠ 0) (k : ∀ z, in32 z → pm_E scr d T (pc + 1) lv (.int (iI z) :: st) ph nc ns Q) : pm_E scr d T pc lv (.int y :: .int x :: st) ph nc ns Q :=
  pm_e_sim h0 (show pm_bd _ _ _ = _ from pm_bd_c (f := fun x y => x - x / y * y) hy) (pm_e_hav k)
theorem pm_i_dvx {scr : Option (Nat × (Nat → Int32))} {d : Nat} {T : pm_M} {pc : Nat} {lv : pm_L} {st : List Value} {ph : List va_E} {nc ns : Nat} {Q : Option Value → List va_E → Nat → Nat → Prop} {x y z : Int32} {len : Nat} (h0 : pm_as (pm_cd T) pc = some (.idiv, len)) (hy : y ≠ 0) (hz : x / y = z) (k : pm_E scr d T (pc + 1) lv (.int z :: st) ph nc ns Q) : pm_E scr d T pc lv (.int y :: .int x :: st) ph nc ns Q :=
  pm_e_sim h0 (show pm_bd _ _ _ = _ from pm_bd_c hy) (by subst hz; exact k)
theorem pm_i_rmx {scr : Option (Nat × (Nat → Int32))} {d : Nat} {T : pm_M} {pc : Nat} {lv : pm_L} {st : List Value} {ph : List va_E} {nc ns : Nat} {Q : Option Value → List va_E → Nat → Nat → Prop} {x y z : Int32} {len : Nat} (h0 : pm_as (pm_cd T) pc = some (.irem, len)) (hy : y ≠ 0) (hz : x - x / y * y = z) (k : pm_E scr d T (pc + 1) lv (.int z :: st) ph nc ns Q) : pm_E scr d T pc lv (.int y :: .int x :: st) ph nc ns Q :=
  pm_e_sim h0 (show pm_bd _ _ _ = _ from pm_bd_c (f := fun x y => x - x / y * y) hy) (by subst hz; exact k)
theorem iI_dv26 {y : Int} (h0 : 0 ≤ y) (h1 : y < 100000) : iI y / iI 26 = iI (y / 26) := by
  have h2 : (iI y / iI 26).toInt = y / 26 := by
    rw [Int32.toInt_div_of_ne_right _ _ (by decide +kernel), iI_t ⟨by omega, by omega⟩, iI_t (by decide)]
    exact Int.tdiv_eq_ediv_of_nonneg h0
  rw [← iI_of (iI y / iI 26), h2]
theorem iI_rm26 {y : Int} (h0 : 0 ≤ y) (h1 : y < 100000) : iI y - iI y / iI 26 * iI 26 = iI (y % 26) := by
  rw [iI_dv26 h0 h1, iI_mul, iI_sub]
  exact congrArg iI (by omega)
def TXs (s : Nat → Int) (a : Nat → Int → Int) (X : List Int) : Prop := s 23 = X.length ∧ rg (a 11) X.length 0 = X
theorem txN_1 (k : Int) : txN 1 k = [92] ++ nmC k ++ [46] := if_pos rfl
theorem txN_0 (k : Int) : txN 0 k = [] := rfl
theorem txN_v {c k : Int} (h : 9 < c) : txN c k = nmC (k - 1 - (c - 10)) := by unfold txN; rw [if_neg (by omega), if_pos h]
theorem txN_l {c k : Int} (h : 2 ≤ c) (h1 : c ≤ 9) : txN c k = [txL c] := by unfold txN; rw [if_neg (by omega), if_neg (by omega), if_neg (by omega)]
theorem sq3_snoc {g D : Int → Int} {W : RW3} {n : Nat} {p : Int} : sq3 g D W (n + 1) p = sq3 g D W n p ++ (gp3 W (p + n) ++ txN (g (p + n)) (D (p + n))) := by
  rw [sq3_app]
  show _ ++ (gp3 W (p + n) ++ txN (g (p + n)) (D (p + n)) ++ []) = _
  rw [List.append_nil]
theorem sq3_cg {g g' D : Int → Int} {W : RW3} : ∀ {n : Nat} {p : Int}, (∀ j, p ≤ j → j < p + (n : Int) → g' j = g j) → sq3 g' D W n p = sq3 g D W n p := by
  intro n
  induction n with
  | zero => intro p _; rfl
  | succ n ih =>
    intro p h
    show gp3 W p ++ txN (g' p) (D p) ++ sq3 g' D W n (p + 1) = gp3 W p ++ txN (g p) (D p) ++ sq3 g D W n (p + 1)
    rw [h p (by omega) (by omega), ih (fun j z y => h j (by omega) (by omega))]
theorem sq3_le {g D : Int → Int} {W : RW3} {i n : Nat} (h : i ≤ n) : (sq3 g D W i 0).length ≤ (sq3 g D W n 0).length := by
  rw [show n = i + (n - i) by omega, sq3_app, List.length_append]
  omega
theorem rep_s {k v : Int} (h : 0 ≤ k) : List.replicate (k + 1).toNat v = List.replicate k.toNat v ++ [v] := by rw [show (k + 1).toNat = k.toNat + 1 by omega, List.replicate_succ']
theorem dp_var {g D : Int → Int} : ∀ {f : Nat} {k p e : Int}, tm g f k p e → dp g D f k p e → ∀ j, p ≤ j → j < e → 9 < g j → g j < 10 + D j := by
  intro f
  induction f with
  | zero => intro k p e h; exact h.elim
  | succ f ih =>
    intro k p e t d j h1 h2 h3
    obtain ⟨dk, d⟩ := d
    rcases t with ⟨h0, m, t1, t2⟩ | ⟨h0, t1⟩ | ⟨h0, t1, t2⟩
    · rcases d with ⟨_, m', d1, d2⟩ | ⟨c, _⟩ | ⟨c, _⟩ <;> try omega
      have e1 := dp_tm_end t1 d1
      subst e1
      by_cases c1 : j = p
      · subst c1; omega
      · by_cases c2 : j < m
        · exact ih t1 d1 j (by omega) c2 h3
        · exact ih t2 d2 j (by omega) h2 h3
    · rcases d with ⟨c, _⟩ | ⟨_, d1⟩ | ⟨c, _⟩ <;> try omega
      by_cases c1 : j = p
      · subst c1; omega
      · exact ih t1 d1 j (by omega) h2 h3
    · have c1 : j = p := by omega
      subst c1
      omega
theorem rw3_ff {g : Int → Int} {p m e : Int} {X : RW3} (h1 : g (p + 1) ≠ 1) (h2 : ¬ g m < 2) : rw3 g p m e X = (updI X.1 m 1, X.2.1, X.2.2) := by unfold rw3; simp only [if_neg h1, if_neg h2]
theorem rw3_tf {g : Int → Int} {p m e : Int} {X : RW3} (h1 : g (p + 1) = 1) (h2 : ¬ g m < 2) : rw3 g p m e X = (updI X.1 m 1, updI X.2.1 (p + 1) 1, updI X.2.2 m (X.2.2 m + 1)) := by unfold rw3; simp only [if_pos h1, if_neg h2]
theorem rw3_ft {g : Int → Int} {p m e : Int} {X : RW3} (h1 : g (p + 1) ≠ 1) (h2 : g m < 2) : rw3 g p m e X = (updI X.1 m 1, updI X.2.1 m 1, updI X.2.2 e (X.2.2 e + 1)) := by unfold rw3; simp only [if_neg h1, if_pos h2]
theorem rw3_tt {g : Int → Int} {p m e : Int} {X : RW3} (h1 : g (p + 1) = 1) (h2 : g m < 2) : rw3 g p m e X = (updI X.1 m 1, updI (updI X.2.1 (p + 1) 1) m 1, updI (updI X.2.2 m (X.2.2 m + 1)) e (updI X.2.2 m (X.2.2 m + 1) e + 1)) := by unfold rw3; simp only [if_pos h1, if_pos h2]
theorem gp3_e {X : RW3} {i : Int} {u v : List Int} (h1 : (if X.1 i ≠ 0 then [32] else []) = u) (h2 : (if X.2.1 i ≠ 0 then [40] else []) = v) : gp3 X i = List.replicate (X.2.2 i).toNat 41 ++ u ++ v := by unfold gp3; rw [h1, h2]
set_option maxHeartbeats 4000000 in
set_option maxRecDepth 100000 in
theorem M_say {d : Nat} {A B : List va_E} {s : Nat → Int} {vl : Int64} {a : Nat → Int → Int} {nm : Nat → Int64} {Q : Option Value → List va_E → Nat → Nat → Prop} {x : Int} (hA : A.length = 18) (h0 : 0 ≤ s 23) (h1 : s 23 < 6000) (k : Q none (mh A (updS s 23 (s 23 + 1)) vl (updA a 11 (updI (a 11) (s 23) x)) nm B) 0 0) : pm_E none d pm_mm172 0 [(0, .ref 18), (1, .int (iI x))] [] (mh A s vl a nm B) 0 0 Q := by
  refine pm_e_sim pm_a172_0 rfl ?_
  show pm_E _ _ _ 1 [(0, .ref 18), (1, .int (iI x))] [.ref 18] _ _ _ _
  refine pm_i_get pm_a172_1 rfl (mh_get (j := 0) hA rfl) rfl ?_
  show pm_E _ _ _ 4 [(0, .ref 18), (1, .int (iI x))] [.ref 29] _ _ _ _
  refine pm_e_sim pm_a172_4 rfl ?_
  show pm_E _ _ _ 5 [(0, .ref 18), (1, .int (iI x))] [.ref 18, .ref 29] _ _ _ _
  refine pm_i_get pm_a172_5 rfl (mh_get (j := 0) hA rfl) rfl ?_
  show pm_E _ _ _ 8 [(0, .ref 18), (1, .int (iI x))] [.int (iI (s 23)), .ref 29] _ _ _ _
  refine pm_e_sim pm_a172_8 rfl ?_
  show pm_E _ _ _ 9 [(0, .ref 18), (1, .int (iI x))] [.int (iI x), .int (iI (s 23)), .ref 29] _ _ _ _
  refine pm_i_ast pm_a172_9 (mh_get (j := 11) hA rfl) (by omega) (by omega) ⟨by omega, by omega⟩ (ma_11 hA _) ?_
  show pm_E _ _ _ 10 [(0, .ref 18), (1, .int (iI x))] [] _ _ _ _
  refine pm_e_sim pm_a172_10 rfl ?_
  show pm_E _ _ _ 11 [(0, .ref 18), (1, .int (iI x))] [.ref 18] _ _ _ _
  refine pm_e_sim pm_a172_11 rfl ?_
  show pm_E _ _ _ 12 [(0, .ref 18), (1, .int (iI x))] [.ref 18, .ref 18] _ _ _ _
  refine pm_i_get pm_a172_12 rfl (mh_get (j := 0) hA rfl) rfl ?_
  show pm_E _ _ _ 15 [(0, .ref 18), (1, .int (iI x))] [.int (iI (s 23)), .ref 18] _ _ _ _
  refine pm_e_sim pm_a172_15 rfl ?_
  refine pm_e_top (y := iI 1) (by decide +kernel) ?_
  show pm_E _ _ _ 16 [(0, .ref 18), (1, .int (iI x))] [.int (iI 1), .int (iI (s 23)), .ref 18] _ _ _ _
  refine pm_e_sim pm_a172_16 rfl ?_
  refine pm_e_top (y := iI (s 23 + 1)) (iI_add _ _) ?_
  show pm_E _ _ _ 17 [(0, .ref 18), (1, .int (iI x))] [.int (iI (s 23 + 1)), .ref 18] _ _ _ _
  refine pm_i_put pm_a172_17 rfl (mh_get (j := 0) hA rfl) rfl (Nat.le_of_ble_eq_true rfl) (Or.inl rfl) (mw_23 hA _) ?_
  show pm_E _ _ _ 20 [(0, .ref 18), (1, .int (iI x))] [] _ _ _ _
  refine pm_e_ret pm_a172_20 rfl rfl rfl rfl rfl rfl rfl rfl ?_
  exact k
theorem M_sayT {d : Nat} {A B : List va_E} {s : Nat → Int} {vl : Int64} {a : Nat → Int → Int} {nm : Nat → Int64} {Q : Option Value → List va_E → Nat → Nat → Prop} {x : Int} {X : List Int} (hA : A.length = 18) (hT : TXs s a X) (h1 : X.length < 6000) (k : ∀ s' a', (∀ j, j ≠ 23 → s' j = s j) → (∀ j, j ≠ 11 → a' j = a j) → TXs s' a' (X ++ [x]) → Q none (mh A s' vl a' nm B) 0 0) : pm_E none d pm_mm172 0 [(0, .ref 18), (1, .int (iI x))] [] (mh A s vl a nm B) 0 0 Q := by
  obtain ⟨t1, t2⟩ := hT
  refine M_say hA (by omega) (by omega) ?_
  refine k _ _ (fun j h => by simp [updS, h]) (fun j h => by simp [updA, h]) ⟨?_, rg_ext t2 t1 x⟩
  show s 23 + 1 = _
  rw [List.length_append, List.length_singleton]
  omega
set_option maxHeartbeats 4000000 in
set_option maxRecDepth 100000 in
theorem M_sayName {d : Nat} {A B : List va_E} {s : Nat → Int} {vl : Int64} {a : Nat → Int → Int} {nm : Nat → Int64} {Q : Option Value → List va_E → Nat → Nat → Prop} {x : Int} {X : List Int} (hA : A.length = 18) (hx : 0 ≤ x) (hx1 : x ≤ 2000) (hT : TXs s a X) (h1 : X.length < 5990) (k : ∀ s' a', (∀ j, j ≠ 23 → s' j = s j) → (∀ j, j ≠ 11 → a' j = a j) → TXs s' a' (X ++ nmC x) → Q none (mh A s' vl a' nm B) 0 0) : pm_E none (d + 1) pm_mm173 0 [(0, .ref 18), (1, .int (iI x))] [] (mh A s vl a nm B) 0 0 Q := by
  refine pm_e_sim pm_a173_0 rfl ?_
  show pm_E _ _ _ 1 [(0, .ref 18), (1, .int (iI x))] [.int (iI x)] _ _ _ _
  refine pm_e_sim pm_a173_1 rfl ?_
  refine pm_e_top (y := iI 25) (by decide +kernel) ?_
  show pm_E _ _ _ 3 [(0, .ref 18), (1, .int (iI x))] [.int (iI 25), .int (iI x)] _ _ _ _
  refine pm_c_le (t := 20) pm_a173_3 rfl ⟨by omega, by omega⟩ ⟨by omega, by omega⟩ (fun h_1 => ?_) (fun h_1 => ?_)
  · skip
    show pm_E _ _ _ 20 [(0, .ref 18), (1, .int (iI x))] [] _ _ _ _
    refine pm_e_sim pm_a173_20 rfl ?_
    show pm_E _ _ _ 21 [(0, .ref 18), (1, .int (iI x))] [.ref 18] _ _ _ _
    refine pm_e_sim pm_a173_21 rfl ?_
    refine pm_e_top (y := iI 97) (by decide +kernel) ?_
    show pm_E _ _ _ 23 [(0, .ref 18), (1, .int (iI x))] [.int (iI 97), .ref 18] _ _ _ _
    refine pm_e_sim pm_a173_23 rfl ?_
    show pm_E _ _ _ 24 [(0, .ref 18), (1, .int (iI x))] [.int (iI x), .int (iI 97), .ref 18] _ _ _ _
    refine pm_e_sim pm_a173_24 rfl ?_
    refine pm_e_top (y := iI 25) (by decide +kernel) ?_
    show pm_E _ _ _ 26 [(0, .ref 18), (1, .int (iI x))] [.int (iI 25), .int (iI x), .int (iI 97), .ref 18] _ _ _ _
    refine pm_c_le (t := 39) pm_a173_26 rfl ⟨by omega, by omega⟩ ⟨by omega, by omega⟩ (fun h_2 => ?_) (fun h_2 => ?_)
    · skip
      show pm_E _ _ _ 39 [(0, .ref 18), (1, .int (iI x))] [.int (iI 97), .ref 18] _ _ _ _
      refine pm_e_sim pm_a173_39 rfl ?_
      show pm_E _ _ _ 40 [(0, .ref 18), (1, .int (iI x))] [.int (iI x), .int (iI 97), .ref 18] _ _ _ _
      refine pm_e_sim pm_a173_40 rfl ?_
      refine pm_e_top (y := iI (97 + x)) (iI_add _ _) ?_
      show pm_E _ _ _ 41 [(0, .ref 18), (1, .int (iI x))] [.int (iI (97 + x)), .ref 18] _ _ _ _
      refine pm_i_callv (k := 18) (T2 := pm_mm172) pm_a173_41 rfl rfl rfl (mh_get (j := 0) hA rfl) ⟨Nat.le_of_ble_eq_true rfl, Nat.le_of_ble_eq_true rfl, rfl, by decide +kernel⟩ ?_
      show pm_E none _ _ 0 [(0, .ref 18), (1, .int (iI (97 + x)))] [] _ _ _ _
      refine M_sayT (X := X) hA hT (by first | omega | (simp only [List.length_append, List.length_cons, List.length_nil, List.length_replicate]; omega)) (fun s3_ a3_ gs3 ga3 t3 => ?_)
      show pm_E _ _ _ 44 [(0, .ref 18), (1, .int (iI x))] [] _ _ _ _
      refine pm_e_ret pm_a173_44 rfl rfl rfl rfl rfl rfl rfl rfl ?_
      first
      | (exfalso; omega)
      | (have e9 : X ++ nmC x = (X ++ [97 + x]) := by
          unfold nmC
          first | (rw [if_pos (by omega)]; simp only [List.append_assoc, List.cons_append, List.nil_append]) | rw [if_neg (by omega)]
         rw [← e9] at t3
         exact k _ _ gs3 ga3 t3)
    · skip
      show pm_E _ _ _ 29 [(0, .ref 18), (1, .int (iI x))] [.int (iI 97), .ref 18] _ _ _ _
      refine pm_e_sim pm_a173_29 rfl ?_
      show pm_E _ _ _ 30 [(0, .ref 18), (1, .int (iI x))] [.int (iI x), .int (iI 97), .ref 18] _ _ _ _
      refine pm_e_sim pm_a173_30 rfl ?_
      refine pm_e_top (y := iI 26) (by decide +kernel) ?_
      show pm_E _ _ _ 32 [(0, .ref 18), (1, .int (iI x))] [.int (iI 26), .int (iI x), .int (iI 97), .ref 18] _ _ _ _
      refine pm_e_sim pm_a173_32 rfl ?_
      refine pm_e_top (y := iI (x - 26)) (iI_sub _ _) ?_
      show pm_E _ _ _ 33 [(0, .ref 18), (1, .int (iI x))] [.int (iI (x - 26)), .int (iI 97), .ref 18] _ _ _ _
      refine pm_e_sim pm_a173_33 rfl ?_
      refine pm_e_top (y := iI 26) (by decide +kernel) ?_
      show pm_E _ _ _ 35 [(0, .ref 18), (1, .int (iI x))] [.int (iI 26), .int (iI (x - 26)), .int (iI 97), .ref 18] _ _ _ _
      refine pm_i_rmx (z := iI ((x - 26) % 26)) pm_a173_35 (by decide +kernel) (iI_rm26 (by omega) (by omega)) ?_
      show pm_E _ _ _ 36 [(0, .ref 18), (1, .int (iI x))] [.int (iI ((x - 26) % 26)), .int (iI 97), .ref 18] _ _ _ _
      refine pm_e_goto pm_a173_36 rfl ?_
      show pm_E _ _ _ 40 [(0, .ref 18), (1, .int (iI x))] [.int (iI ((x - 26) % 26)), .int (iI 97), .ref 18] _ _ _ _
      refine pm_e_sim pm_a173_40 rfl ?_
      refine pm_e_top (y := iI (97 + ((x - 26) % 26))) (iI_add _ _) ?_
      show pm_E _ _ _ 41 [(0, .ref 18), (1, .int (iI x))] [.int (iI (97 + ((x - 26) % 26))), .ref 18] _ _ _ _
      refine pm_i_callv (k := 18) (T2 := pm_mm172) pm_a173_41 rfl rfl rfl (mh_get (j := 0) hA rfl) ⟨Nat.le_of_ble_eq_true rfl, Nat.le_of_ble_eq_true rfl, rfl, by decide +kernel⟩ ?_
      show pm_E none _ _ 0 [(0, .ref 18), (1, .int (iI (97 + ((x - 26) % 26))))] [] _ _ _ _
      refine M_sayT (X := X) hA hT (by first | omega | (simp only [List.length_append, List.length_cons, List.length_nil, List.length_replicate]; omega)) (fun s5_ a5_ gs5 ga5 t5 => ?_)
      show pm_E _ _ _ 44 [(0, .ref 18), (1, .int (iI x))] [] _ _ _ _
      refine pm_e_ret pm_a173_44 rfl rfl rfl rfl rfl rfl rfl rfl ?_
      first
      | (exfalso; omega)
      | (have e9 : X ++ nmC x = (X ++ [97 + ((x - 26) % 26)]) := by
          unfold nmC
          first | (rw [if_pos (by omega)]; simp only [List.append_assoc, List.cons_append, List.nil_append]) | rw [if_neg (by omega)]
         rw [← e9] at t5
         exact k _ _ gs5 ga5 t5)
  · skip
    show pm_E _ _ _ 6 [(0, .ref 18), (1, .int (iI x))] [] _ _ _ _
    refine pm_e_sim pm_a173_6 rfl ?_
    show pm_E _ _ _ 7 [(0, .ref 18), (1, .int (iI x))] [.ref 18] _ _ _ _
    refine pm_e_sim pm_a173_7 rfl ?_
    refine pm_e_top (y := iI 97) (by decide +kernel) ?_
    show pm_E _ _ _ 9 [(0, .ref 18), (1, .int (iI x))] [.int (iI 97), .ref 18] _ _ _ _
    refine pm_e_sim pm_a173_9 rfl ?_
    show pm_E _ _ _ 10 [(0, .ref 18), (1, .int (iI x))] [.int (iI x), .int (iI 97), .ref 18] _ _ _ _
    refine pm_e_sim pm_a173_10 rfl ?_
    refine pm_e_top (y := iI 26) (by decide +kernel) ?_
    show pm_E _ _ _ 12 [(0, .ref 18), (1, .int (iI x))] [.int (iI 26), .int (iI x), .int (iI 97), .ref 18] _ _ _ _
    refine pm_e_sim pm_a173_12 rfl ?_
    refine pm_e_top (y := iI (x - 26)) (iI_sub _ _) ?_
    show pm_E _ _ _ 13 [(0, .ref 18), (1, .int (iI x))] [.int (iI (x - 26)), .int (iI 97), .ref 18] _ _ _ _
    refine pm_e_sim pm_a173_13 rfl ?_
    refine pm_e_top (y := iI 26) (by decide +kernel) ?_
    show pm_E _ _ _ 15 [(0, .ref 18), (1, .int (iI x))] [.int (iI 26), .int (iI (x - 26)), .int (iI 97), .ref 18] _ _ _ _
    refine pm_i_dvx (z := iI ((x - 26) / 26)) pm_a173_15 (by decide +kernel) (iI_dv26 (by omega) (by omega)) ?_
    show pm_E _ _ _ 16 [(0, .ref 18), (1, .int (iI x))] [.int (iI ((x - 26) / 26)), .int (iI 97), .ref 18] _ _ _ _
    refine pm_e_sim pm_a173_16 rfl ?_
    refine pm_e_top (y := iI (97 + ((x - 26) / 26))) (iI_add _ _) ?_
    show pm_E _ _ _ 17 [(0, .ref 18), (1, .int (iI x))] [.int (iI (97 + ((x - 26) / 26))), .ref 18] _ _ _ _
    refine pm_i_callv (k := 18) (T2 := pm_mm172) pm_a173_17 rfl rfl rfl (mh_get (j := 0) hA rfl) ⟨Nat.le_of_ble_eq_true rfl, Nat.le_of_ble_eq_true rfl, rfl, by decide +kernel⟩ ?_
    show pm_E none _ _ 0 [(0, .ref 18), (1, .int (iI (97 + ((x - 26) / 26))))] [] _ _ _ _
    refine M_sayT (X := X) hA hT (by first | omega | (simp only [List.length_append, List.length_cons, List.length_nil, List.length_replicate]; omega)) (fun s7_ a7_ gs7 ga7 t7 => ?_)
    show pm_E _ _ _ 20 [(0, .ref 18), (1, .int (iI x))] [] _ _ _ _
    refine pm_e_sim pm_a173_20 rfl ?_
    show pm_E _ _ _ 21 [(0, .ref 18), (1, .int (iI x))] [.ref 18] _ _ _ _
    refine pm_e_sim pm_a173_21 rfl ?_
    refine pm_e_top (y := iI 97) (by decide +kernel) ?_
    show pm_E _ _ _ 23 [(0, .ref 18), (1, .int (iI x))] [.int (iI 97), .ref 18] _ _ _ _
    refine pm_e_sim pm_a173_23 rfl ?_
    show pm_E _ _ _ 24 [(0, .ref 18), (1, .int (iI x))] [.int (iI x), .int (iI 97), .ref 18] _ _ _ _
    refine pm_e_sim pm_a173_24 rfl ?_
    refine pm_e_top (y := iI 25) (by decide +kernel) ?_
    show pm_E _ _ _ 26 [(0, .ref 18), (1, .int (iI x))] [.int (iI 25), .int (iI x), .int (iI 97), .ref 18] _ _ _ _
    refine pm_c_le (t := 39) pm_a173_26 rfl ⟨by omega, by omega⟩ ⟨by omega, by omega⟩ (fun h_8 => ?_) (fun h_8 => ?_)
    · skip
      show pm_E _ _ _ 39 [(0, .ref 18), (1, .int (iI x))] [.int (iI 97), .ref 18] _ _ _ _
      refine pm_e_sim pm_a173_39 rfl ?_
      show pm_E _ _ _ 40 [(0, .ref 18), (1, .int (iI x))] [.int (iI x), .int (iI 97), .ref 18] _ _ _ _
      refine pm_e_sim pm_a173_40 rfl ?_
      refine pm_e_top (y := iI (97 + x)) (iI_add _ _) ?_
      show pm_E _ _ _ 41 [(0, .ref 18), (1, .int (iI x))] [.int (iI (97 + x)), .ref 18] _ _ _ _
      refine pm_i_callv (k := 18) (T2 := pm_mm172) pm_a173_41 rfl rfl rfl (mh_get (j := 0) hA rfl) ⟨Nat.le_of_ble_eq_true rfl, Nat.le_of_ble_eq_true rfl, rfl, by decide +kernel⟩ ?_
      show pm_E none _ _ 0 [(0, .ref 18), (1, .int (iI (97 + x)))] [] _ _ _ _
      refine M_sayT (X := (X ++ [97 + ((x - 26) / 26)])) hA t7 (by first | omega | (simp only [List.length_append, List.length_cons, List.length_nil, List.length_replicate]; omega)) (fun s9_ a9_ gs9 ga9 t9 => ?_)
      have fs9 : ∀ j, j ≠ 23 → s9_ j = s j := fun j hj => (gs9 j hj).trans (gs7 j hj)
      have fa9 : ∀ j, j ≠ 11 → a9_ j = a j := fun j hj => (ga9 j hj).trans (ga7 j hj)
      show pm_E _ _ _ 44 [(0, .ref 18), (1, .int (iI x))] [] _ _ _ _
      refine pm_e_ret pm_a173_44 rfl rfl rfl rfl rfl rfl rfl rfl ?_
      first
      | (exfalso; omega)
      | (have e9 : X ++ nmC x = ((X ++ [97 + ((x - 26) / 26)]) ++ [97 + x]) := by
          unfold nmC
          first | (rw [if_pos (by omega)]; simp only [List.append_assoc, List.cons_append, List.nil_append]) | rw [if_neg (by omega)]
         rw [← e9] at t9
         exact k _ _ fs9 fa9 t9)
    · skip
      show pm_E _ _ _ 29 [(0, .ref 18), (1, .int (iI x))] [.int (iI 97), .ref 18] _ _ _ _
      refine pm_e_sim pm_a173_29 rfl ?_
      show pm_E _ _ _ 30 [(0, .ref 18), (1, .int (iI x))] [.int (iI x), .int (iI 97), .ref 18] _ _ _ _
      refine pm_e_sim pm_a173_30 rfl ?_
      refine pm_e_top (y := iI 26) (by decide +kernel) ?_
      show pm_E _ _ _ 32 [(0, .ref 18), (1, .int (iI x))] [.int (iI 26), .int (iI x), .int (iI 97), .ref 18] _ _ _ _
      refine pm_e_sim pm_a173_32 rfl ?_
      refine pm_e_top (y := iI (x - 26)) (iI_sub _ _) ?_
      show pm_E _ _ _ 33 [(0, .ref 18), (1, .int (iI x))] [.int (iI (x - 26)), .int (iI 97), .ref 18] _ _ _ _
      refine pm_e_sim pm_a173_33 rfl ?_
      refine pm_e_top (y := iI 26) (by decide +kernel) ?_
      show pm_E _ _ _ 35 [(0, .ref 18), (1, .int (iI x))] [.int (iI 26), .int (iI (x - 26)), .int (iI 97), .ref 18] _ _ _ _
      refine pm_i_rmx (z := iI ((x - 26) % 26)) pm_a173_35 (by decide +kernel) (iI_rm26 (by omega) (by omega)) ?_
      show pm_E _ _ _ 36 [(0, .ref 18), (1, .int (iI x))] [.int (iI ((x - 26) % 26)), .int (iI 97), .ref 18] _ _ _ _
      refine pm_e_goto pm_a173_36 rfl ?_
      show pm_E _ _ _ 40 [(0, .ref 18), (1, .int (iI x))] [.int (iI ((x - 26) % 26)), .int (iI 97), .ref 18] _ _ _ _
      refine pm_e_sim pm_a173_40 rfl ?_
      refine pm_e_top (y := iI (97 + ((x - 26) % 26))) (iI_add _ _) ?_
      show pm_E _ _ _ 41 [(0, .ref 18), (1, .int (iI x))] [.int (iI (97 + ((x - 26) % 26))), .ref 18] _ _ _ _
      refine pm_i_callv (k := 18) (T2 := pm_mm172) pm_a173_41 rfl rfl rfl (mh_get (j := 0) hA rfl) ⟨Nat.le_of_ble_eq_true rfl, Nat.le_of_ble_eq_true rfl, rfl, by decide +kernel⟩ ?_
      show pm_E none _ _ 0 [(0, .ref 18), (1, .int (iI (97 + ((x - 26) % 26))))] [] _ _ _ _
      refine M_sayT (X := (X ++ [97 + ((x - 26) / 26)])) hA t7 (by first | omega | (simp only [List.length_append, List.length_cons, List.length_nil, List.length_replicate]; omega)) (fun s11_ a11_ gs11 ga11 t11 => ?_)
      have fs11 : ∀ j, j ≠ 23 → s11_ j = s j := fun j hj => (gs11 j hj).trans (gs7 j hj)
      have fa11 : ∀ j, j ≠ 11 → a11_ j = a j := fun j hj => (ga11 j hj).trans (ga7 j hj)
      show pm_E _ _ _ 44 [(0, .ref 18), (1, .int (iI x))] [] _ _ _ _
      refine pm_e_ret pm_a173_44 rfl rfl rfl rfl rfl rfl rfl rfl ?_
      first
      | (exfalso; omega)
      | (have e9 : X ++ nmC x = ((X ++ [97 + ((x - 26) / 26)]) ++ [97 + ((x - 26) % 26)]) := by
          unfold nmC
          first | (rw [if_pos (by omega)]; simp only [List.append_assoc, List.cons_append, List.nil_append]) | rw [if_neg (by omega)]
         rw [← e9] at t11
         exact k _ _ fs11 fa11 t11)
set_option maxHeartbeats 4000000 in
set_option maxRecDepth 100000 in
theorem M_sayTerm_1 {d : Nat} {A B : List va_E} {vl : Int64} {nm : Nat → Int64} {Q : Option Value → List va_E → Nat → Nat → Prop} {s : Nat → Int} {a0 : Nat → Int → Int} (hA : A.length = 18) (h6 : 0 ≤ s 6) (h61 : s 6 ≤ 500) : ∀ (f : Nat) (i : Int) (a : Nat → Int → Int), 0 ≤ i → i ≤ s 6 + 1 → (∀ j, j ≠ 12 → j ≠ 13 → j ≠ 14 → a j = a0 j) → (∀ j, in32 (a 12 j)) → (∀ j, in32 (a 13 j)) → (∀ j, 0 ≤ j → j < i → a 12 j = 0 ∧ a 13 j = 0 ∧ a 14 j = 0) → (∀ (a : Nat → Int → Int), (∀ j, j ≠ 12 → j ≠ 13 → j ≠ 14 → a j = a0 j) → (∀ j, in32 (a 12 j)) → (∀ j, in32 (a 13 j)) → (∀ j, 0 ≤ j → j < s 6 + 1 → a 12 j = 0 ∧ a 13 j = 0 ∧ a 14 j = 0) → ∀ i', pm_E none (d + 2) pm_mm169 37 [(0, .ref 18), (1, .int (iI (i')))] [] (mh A s vl a nm B) 0 0 Q) → s 6 + 1 - i < (f : Int) → pm_E none (d + 2) pm_mm169 2 [(0, .ref 18), (1, .int (iI i))] [] (mh A s vl a nm B) 0 0 Q := by
  intro f
  induction f with
  | zero =>
    intro i a h0 h1 fA hb ho hc k hf
    exfalso; omega
  | succ f ih =>
    intro i a h0 h1 fA hb ho hc k hf
    refine pm_e_sim pm_a169_2 rfl ?_
    show pm_E _ _ _ 3 [(0, .ref 18), (1, .int (iI i))] [.int (iI i)] _ _ _ _
    refine pm_e_sim pm_a169_3 rfl ?_
    show pm_E _ _ _ 4 [(0, .ref 18), (1, .int (iI i))] [.ref 18, .int (iI i)] _ _ _ _
    refine pm_i_get pm_a169_4 rfl (mh_get (j := 0) hA rfl) rfl ?_
    show pm_E _ _ _ 7 [(0, .ref 18), (1, .int (iI i))] [.int (iI (s 6)), .int (iI i)] _ _ _ _
    refine pm_c_gt (t := 37) pm_a169_7 rfl ⟨by omega, by omega⟩ ⟨by omega, by omega⟩ (fun h_1 => ?_) (fun h_1 => ?_)
    · skip
      show pm_E _ _ _ 37 [(0, .ref 18), (1, .int (iI i))] [] _ _ _ _
      exact k a fA hb ho (fun j z y => hc j z (by omega)) _
    · skip
      show pm_E _ _ _ 10 [(0, .ref 18), (1, .int (iI i))] [] _ _ _ _
      refine pm_e_sim pm_a169_10 rfl ?_
      show pm_E _ _ _ 11 [(0, .ref 18), (1, .int (iI i))] [.ref 18] _ _ _ _
      refine pm_i_get pm_a169_11 rfl (mh_get (j := 0) hA rfl) rfl ?_
      show pm_E _ _ _ 14 [(0, .ref 18), (1, .int (iI i))] [.ref 30] _ _ _ _
      refine pm_e_sim pm_a169_14 rfl ?_
      show pm_E _ _ _ 15 [(0, .ref 18), (1, .int (iI i))] [.int (iI i), .ref 30] _ _ _ _
      refine pm_e_sim pm_a169_15 rfl ?_
      refine pm_e_top (y := iI 0) (by decide +kernel) ?_
      show pm_E _ _ _ 16 [(0, .ref 18), (1, .int (iI i))] [.int (iI 0), .int (iI i), .ref 30] _ _ _ _
      refine pm_i_bst pm_a169_16 (mh_get (j := 12) hA rfl) (by omega) (by omega) ⟨by omega, by omega⟩ (by decide +kernel) (ma_12 hA _) ?_
      show pm_E _ _ _ 17 [(0, .ref 18), (1, .int (iI i))] [] _ _ _ _
      refine pm_e_sim pm_a169_17 rfl ?_
      show pm_E _ _ _ 18 [(0, .ref 18), (1, .int (iI i))] [.ref 18] _ _ _ _
      refine pm_i_get pm_a169_18 rfl (mh_get (j := 0) hA rfl) rfl ?_
      show pm_E _ _ _ 21 [(0, .ref 18), (1, .int (iI i))] [.ref 31] _ _ _ _
      refine pm_e_sim pm_a169_21 rfl ?_
      show pm_E _ _ _ 22 [(0, .ref 18), (1, .int (iI i))] [.int (iI i), .ref 31] _ _ _ _
      refine pm_e_sim pm_a169_22 rfl ?_
      refine pm_e_top (y := iI 0) (by decide +kernel) ?_
      show pm_E _ _ _ 23 [(0, .ref 18), (1, .int (iI i))] [.int (iI 0), .int (iI i), .ref 31] _ _ _ _
      refine pm_i_bst pm_a169_23 (mh_get (j := 13) hA rfl) (by omega) (by omega) ⟨by omega, by omega⟩ (by decide +kernel) (ma_13 hA _) ?_
      show pm_E _ _ _ 24 [(0, .ref 18), (1, .int (iI i))] [] _ _ _ _
      refine pm_e_sim pm_a169_24 rfl ?_
      show pm_E _ _ _ 25 [(0, .ref 18), (1, .int (iI i))] [.ref 18] _ _ _ _
      refine pm_i_get pm_a169_25 rfl (mh_get (j := 0) hA rfl) rfl ?_
      show pm_E _ _ _ 28 [(0, .ref 18), (1, .int (iI i))] [.ref 32] _ _ _ _
      refine pm_e_sim pm_a169_28 rfl ?_
      show pm_E _ _ _ 29 [(0, .ref 18), (1, .int (iI i))] [.int (iI i), .ref 32] _ _ _ _
      refine pm_e_sim pm_a169_29 rfl ?_
      refine pm_e_top (y := iI 0) (by decide +kernel) ?_
      show pm_E _ _ _ 30 [(0, .ref 18), (1, .int (iI i))] [.int (iI 0), .int (iI i), .ref 32] _ _ _ _
      refine pm_i_ast pm_a169_30 (mh_get (j := 14) hA rfl) (by omega) (by omega) ⟨by omega, by omega⟩ (ma_14 hA _) ?_
      show pm_E _ _ _ 31 [(0, .ref 18), (1, .int (iI i))] [] _ _ _ _
      refine pm_e_inc (y := iI (i + 1)) pm_a169_31 rfl (iI_add _ _) (by decide +kernel) rfl ?_
      show pm_E _ _ _ 34 [(0, .ref 18), (1, .int (iI (i + 1)))] [] _ _ _ _
      refine pm_e_goto pm_a169_34 rfl ?_
      show pm_E _ _ _ 2 [(0, .ref 18), (1, .int (iI (i + 1)))] [] _ _ _ _
      refine ih (i + 1) _ (by omega) (by omega) (fun j h1 h2 h3 => by simp [updA, h1, h2, h3, fA j h1 h2 h3]) (updI_in hb (by decide)) (updI_in ho (by decide)) (fun j z y => ?_) k (by omega)
      by_cases hj : j = i
      · subst hj; exact ⟨updI_s _ _ _, updI_s _ _ _, updI_s _ _ _⟩
      · show updI (a 12) i 0 j = 0 ∧ updI (a 13) i 0 j = 0 ∧ updI (a 14) i 0 j = 0
        rw [updI_n _ _ hj, updI_n _ _ hj, updI_n _ _ hj]
        exact hc j z (by omega)
set_option maxHeartbeats 4000000 in
set_option maxRecDepth 100000 in
theorem M_sayTerm_2 {d : Nat} {A B : List va_E} {vl : Int64} {nm : Nat → Int64} {Q : Option Value → List va_E → Nat → Nat → Prop} {s : Nat → Int} {a0 : Nat → Int → Int} {ff : Nat} {kk : Int} {X0 : RW3} (hA : A.length = 18) (h6 : 0 ≤ s 6) (h61 : s 6 ≤ 500) (ht : tm (a0 4) ff kk 0 (s 6)) (hr0 : ∀ j, in32 (a0 4 j)) : ∀ (f : Nat) (p : Int) (a : Nat → Int → Int), 0 ≤ p → p ≤ s 6 → (∀ j, j ≠ 12 → j ≠ 13 → j ≠ 14 → a j = a0 j) → (∀ j, in32 (a 12 j)) → (∀ j, in32 (a 13 j)) → (∀ j, 0 ≤ j → j < s 6 + 1 → 0 ≤ a 14 j ∧ a 14 j ≤ 2 * p) → al3 (a0 4) p.toNat 0 X0 (a 12, a 13, a 14) → (∀ (a : Nat → Int → Int), (∀ j, j ≠ 12 → j ≠ 13 → j ≠ 14 → a j = a0 j) → (∀ j, in32 (a 12 j)) → (∀ j, in32 (a 13 j)) → (∀ j, 0 ≤ j → j < s 6 + 1 → 0 ≤ a 14 j ∧ a 14 j ≤ 1000) → al3 (a0 4) (s 6).toNat 0 X0 (a 12, a 13, a 14) → ∀ p', pm_E none (d + 2) pm_mm169 139 [(0, .ref 18), (1, .int (iI (p')))] [] (mh A s vl a nm B) 0 0 Q) → s 6 - p < (f : Int) → pm_E none (d + 2) pm_mm169 39 [(0, .ref 18), (1, .int (iI p))] [] (mh A s vl a nm B) 0 0 Q := by
  intro f
  induction f with
  | zero =>
    intro p a h0 h1 fA hb ho hc hal k hf
    exfalso; omega
  | succ f ih =>
    intro p a h0 h1 fA hb ho hc hal k hf
    have e4 : a 4 = a0 4 := fA 4 (by omega) (by omega) (by omega)
    have hr : ∀ j, in32 (a 4 j) := fun j => by rw [e4]; exact hr0 j
    have e4p : a 4 p = a0 4 p := by rw [e4]
    have e4q : a 4 (p + 1) = a0 4 (p + 1) := by rw [e4]
    refine pm_e_sim pm_a169_39 rfl ?_
    show pm_E _ _ _ 40 [(0, .ref 18), (1, .int (iI p))] [.int (iI p)] _ _ _ _
    refine pm_e_sim pm_a169_40 rfl ?_
    show pm_E _ _ _ 41 [(0, .ref 18), (1, .int (iI p))] [.ref 18, .int (iI p)] _ _ _ _
    refine pm_i_get pm_a169_41 rfl (mh_get (j := 0) hA rfl) rfl ?_
    show pm_E _ _ _ 44 [(0, .ref 18), (1, .int (iI p))] [.int (iI (s 6)), .int (iI p)] _ _ _ _
    refine pm_c_ge (t := 139) pm_a169_44 rfl ⟨by omega, by omega⟩ ⟨by omega, by omega⟩ (fun h_1 => ?_) (fun h_1 => ?_)
    · skip
      show pm_E _ _ _ 139 [(0, .ref 18), (1, .int (iI p))] [] _ _ _ _
      exact k a fA hb ho (fun j z y => by have := hc j z y; omega) (by rw [show s 6 = p by omega]; exact hal) _
    · skip
      show pm_E _ _ _ 47 [(0, .ref 18), (1, .int (iI p))] [] _ _ _ _
      refine pm_e_sim pm_a169_47 rfl ?_
      show pm_E _ _ _ 48 [(0, .ref 18), (1, .int (iI p))] [.ref 18] _ _ _ _
      refine pm_i_get pm_a169_48 rfl (mh_get (j := 0) hA rfl) rfl ?_
      show pm_E _ _ _ 51 [(0, .ref 18), (1, .int (iI p))] [.ref 22] _ _ _ _
      refine pm_e_sim pm_a169_51 rfl ?_
      show pm_E _ _ _ 52 [(0, .ref 18), (1, .int (iI p))] [.int (iI p), .ref 22] _ _ _ _
      refine pm_i_ald pm_a169_52 (mh_get (j := 4) hA rfl) (by omega) (by omega) ⟨by omega, by omega⟩ ?_
      show pm_E _ _ _ 53 [(0, .ref 18), (1, .int (iI p))] [.int (iI ((a 4) (p)))] _ _ _ _
      have := hr (p)
      refine pm_i_ne (t := 133) pm_a169_53 rfl ⟨by omega, by omega⟩ (fun h_2 => ?_) (fun h_2 => ?_)
      · skip
        show pm_E _ _ _ 133 [(0, .ref 18), (1, .int (iI p))] [] _ _ _ _
        refine pm_e_inc (y := iI (p + 1)) pm_a169_133 rfl (iI_add _ _) (by decide +kernel) rfl ?_
        show pm_E _ _ _ 136 [(0, .ref 18), (1, .int (iI (p + 1)))] [] _ _ _ _
        refine pm_e_goto pm_a169_136 rfl ?_
        show pm_E _ _ _ 39 [(0, .ref 18), (1, .int (iI (p + 1)))] [] _ _ _ _
        refine ih (p + 1) _ (by omega) (by omega) (fun j h1 h2 h3 => by simp [updA, h1, h2, h3, fA j h1 h2 h3]) ?_ ?_ (fun j z y => ?_) ?_ k (by omega)
        · exact hb
        · exact ho
        · have := hc j z y; show 0 ≤ a 14 j ∧ a 14 j ≤ _; omega
        · rw [show (p + 1).toNat = p.toNat + 1 by omega]
          refine al3_snoc hal ?_
          rw [show (0 : Int) + (p.toNat : Int) = p by omega]
          exact Or.inl ⟨by omega, rfl⟩
      · skip
        show pm_E _ _ _ 56 [(0, .ref 18), (1, .int (iI p))] [] _ _ _ _
        refine pm_e_sim pm_a169_56 rfl ?_
        show pm_E _ _ _ 57 [(0, .ref 18), (1, .int (iI p))] [.ref 18] _ _ _ _
        refine pm_e_sim pm_a169_57 rfl ?_
        show pm_E _ _ _ 58 [(0, .ref 18), (1, .int (iI p))] [.int (iI p), .ref 18] _ _ _ _
        refine pm_e_sim pm_a169_58 rfl ?_
        refine pm_e_top (y := iI 1) (by decide +kernel) ?_
        show pm_E _ _ _ 59 [(0, .ref 18), (1, .int (iI p))] [.int (iI 1), .int (iI p), .ref 18] _ _ _ _
        refine pm_e_sim pm_a169_59 rfl ?_
        refine pm_e_top (y := iI (p + 1)) (iI_add _ _) ?_
        show pm_E _ _ _ 60 [(0, .ref 18), (1, .int (iI p))] [.int (iI (p + 1)), .ref 18] _ _ _ _
        refine pm_i_callv (k := 18) (T2 := pm_mm170) pm_a169_60 rfl rfl rfl (mh_get (j := 0) hA rfl) ⟨Nat.le_of_ble_eq_true rfl, Nat.le_of_ble_eq_true rfl, rfl, by decide +kernel⟩ ?_
        show pm_E none _ _ 0 [(0, .ref 18), (1, .int (iI (p + 1)))] [] _ _ _ _
        obtain ⟨fp, kp, ep, tp, hep, _⟩ := tm_sub ht p (by omega) (by omega)
        obtain ⟨f1, q, t1, t2, _⟩ := tm_app tp (by rw [← e4]; omega)
        have l1 := tm_lt t1
        have l2 := tm_lt t2
        have e4m : a 4 q = a0 4 q := by rw [e4]
        refine M_endT hA hr (by rw [e4]; exact t1) (by omega) (by omega) ?_
        show pm_E _ _ _ 63 [(0, .ref 18), (1, .int (iI p))] [.int (iI q)] _ _ _ _
        refine pm_e_sim pm_a169_63 rfl ?_
        show pm_E _ _ _ 64 [(0, .ref 18), (1, .int (iI p)), (2, .int (iI q))] [] _ _ _ _
        refine pm_e_sim pm_a169_64 rfl ?_
        show pm_E _ _ _ 65 [(0, .ref 18), (1, .int (iI p)), (2, .int (iI q))] [.ref 18] _ _ _ _
        refine pm_i_get pm_a169_65 rfl (mh_get (j := 0) hA rfl) rfl ?_
        show pm_E _ _ _ 68 [(0, .ref 18), (1, .int (iI p)), (2, .int (iI q))] [.ref 30] _ _ _ _
        refine pm_e_sim pm_a169_68 rfl ?_
        show pm_E _ _ _ 69 [(0, .ref 18), (1, .int (iI p)), (2, .int (iI q))] [.int (iI q), .ref 30] _ _ _ _
        refine pm_e_sim pm_a169_69 rfl ?_
        refine pm_e_top (y := iI 1) (by decide +kernel) ?_
        show pm_E _ _ _ 70 [(0, .ref 18), (1, .int (iI p)), (2, .int (iI q))] [.int (iI 1), .int (iI q), .ref 30] _ _ _ _
        refine pm_i_bst pm_a169_70 (mh_get (j := 12) hA rfl) (by omega) (by omega) ⟨by omega, by omega⟩ (by decide +kernel) (ma_12 hA _) ?_
        show pm_E _ _ _ 71 [(0, .ref 18), (1, .int (iI p)), (2, .int (iI q))] [] _ _ _ _
        refine pm_e_sim pm_a169_71 rfl ?_
        show pm_E _ _ _ 72 [(0, .ref 18), (1, .int (iI p)), (2, .int (iI q))] [.ref 18] _ _ _ _
        refine pm_i_get pm_a169_72 rfl (mh_get (j := 0) hA rfl) rfl ?_
        show pm_E _ _ _ 75 [(0, .ref 18), (1, .int (iI p)), (2, .int (iI q))] [.ref 22] _ _ _ _
        refine pm_e_sim pm_a169_75 rfl ?_
        show pm_E _ _ _ 76 [(0, .ref 18), (1, .int (iI p)), (2, .int (iI q))] [.int (iI p), .ref 22] _ _ _ _
        refine pm_e_sim pm_a169_76 rfl ?_
        refine pm_e_top (y := iI 1) (by decide +kernel) ?_
        show pm_E _ _ _ 77 [(0, .ref 18), (1, .int (iI p)), (2, .int (iI q))] [.int (iI 1), .int (iI p), .ref 22] _ _ _ _
        refine pm_e_sim pm_a169_77 rfl ?_
        refine pm_e_top (y := iI (p + 1)) (iI_add _ _) ?_
        show pm_E _ _ _ 78 [(0, .ref 18), (1, .int (iI p)), (2, .int (iI q))] [.int (iI (p + 1)), .ref 22] _ _ _ _
        refine pm_i_ald pm_a169_78 (mh_get (j := 4) hA rfl) (by omega) (by omega) ⟨by omega, by omega⟩ ?_
        show pm_E _ _ _ 79 [(0, .ref 18), (1, .int (iI p)), (2, .int (iI q))] [.int (iI ((a 4) (p + 1)))] _ _ _ _
        have := hr (p + 1)
        refine pm_e_sim pm_a169_79 rfl ?_
        refine pm_e_top (y := iI 1) (by decide +kernel) ?_
        show pm_E _ _ _ 80 [(0, .ref 18), (1, .int (iI p)), (2, .int (iI q))] [.int (iI 1), .int (iI ((a 4) (p + 1)))] _ _ _ _
        refine pm_c_ne (t := 102) pm_a169_80 rfl ⟨by omega, by omega⟩ ⟨by omega, by omega⟩ (fun h_3 => ?_) (fun h_3 => ?_)
        · skip
          show pm_E _ _ _ 102 [(0, .ref 18), (1, .int (iI p)), (2, .int (iI q))] [] _ _ _ _
          refine pm_e_sim pm_a169_102 rfl ?_
          show pm_E _ _ _ 103 [(0, .ref 18), (1, .int (iI p)), (2, .int (iI q))] [.ref 18] _ _ _ _
          refine pm_i_get pm_a169_103 rfl (mh_get (j := 0) hA rfl) rfl ?_
          show pm_E _ _ _ 106 [(0, .ref 18), (1, .int (iI p)), (2, .int (iI q))] [.ref 22] _ _ _ _
          refine pm_e_sim pm_a169_106 rfl ?_
          show pm_E _ _ _ 107 [(0, .ref 18), (1, .int (iI p)), (2, .int (iI q))] [.int (iI q), .ref 22] _ _ _ _
          refine pm_i_ald pm_a169_107 (mh_get (j := 4) hA rfl) (by omega) (by omega) ⟨by omega, by omega⟩ ?_
          show pm_E _ _ _ 108 [(0, .ref 18), (1, .int (iI p)), (2, .int (iI q))] [.int (iI ((a 4) (q)))] _ _ _ _
          have := hr (q)
          refine pm_e_sim pm_a169_108 rfl ?_
          refine pm_e_top (y := iI 2) (by decide +kernel) ?_
          show pm_E _ _ _ 109 [(0, .ref 18), (1, .int (iI p)), (2, .int (iI q))] [.int (iI 2), .int (iI ((a 4) (q)))] _ _ _ _
          refine pm_c_ge (t := 133) pm_a169_109 rfl ⟨by omega, by omega⟩ ⟨by omega, by omega⟩ (fun h_4 => ?_) (fun h_4 => ?_)
          · skip
            show pm_E _ _ _ 133 [(0, .ref 18), (1, .int (iI p)), (2, .int (iI q))] [] _ _ _ _
            refine pm_e_inc (y := iI (p + 1)) pm_a169_133 rfl (iI_add _ _) (by decide +kernel) rfl ?_
            show pm_E _ _ _ 136 [(0, .ref 18), (1, .int (iI (p + 1))), (2, .int (iI q))] [] _ _ _ _
            refine pm_e_goto pm_a169_136 rfl ?_
            show pm_E _ _ _ 39 [(0, .ref 18), (1, .int (iI (p + 1))), (2, .int (iI q))] [] _ _ _ _
            show pm_E _ _ _ 39 ([(0, .ref 18), (1, .int (iI (p + 1)))] ++ [(2, .int (iI q))]) [] _ _ _ _
            refine pm_e_more [(2, .int (iI q))] (show ([0, 1, 2] : List Nat).Nodup from by decide) ?_
            refine ih (p + 1) _ (by omega) (by omega) (fun j h1 h2 h3 => by simp [updA, h1, h2, h3, fA j h1 h2 h3]) ?_ ?_ (fun j z y => ?_) ?_ k (by omega)
            · exact updI_in hb (by decide)
            · exact ho
            · have := hc j z y; show 0 ≤ a 14 j ∧ a 14 j ≤ _; omega
            · rw [show (p + 1).toNat = p.toNat + 1 by omega]
              refine al3_snoc hal ?_
              rw [show (0 : Int) + (p.toNat : Int) = p by omega]
              exact Or.inr ⟨by omega, f1, kp, q, ep, t1, t2, (rw3_ff (g := a0 4) (p := p) (m := q) (e := ep) (X := (a 12, a 13, a 14)) (by omega) (by omega)).symm⟩
          · skip
            show pm_E _ _ _ 112 [(0, .ref 18), (1, .int (iI p)), (2, .int (iI q))] [] _ _ _ _
            refine pm_e_sim pm_a169_112 rfl ?_
            show pm_E _ _ _ 113 [(0, .ref 18), (1, .int (iI p)), (2, .int (iI q))] [.ref 18] _ _ _ _
            refine pm_i_get pm_a169_113 rfl (mh_get (j := 0) hA rfl) rfl ?_
            show pm_E _ _ _ 116 [(0, .ref 18), (1, .int (iI p)), (2, .int (iI q))] [.ref 31] _ _ _ _
            refine pm_e_sim pm_a169_116 rfl ?_
            show pm_E _ _ _ 117 [(0, .ref 18), (1, .int (iI p)), (2, .int (iI q))] [.int (iI q), .ref 31] _ _ _ _
            refine pm_e_sim pm_a169_117 rfl ?_
            refine pm_e_top (y := iI 1) (by decide +kernel) ?_
            show pm_E _ _ _ 118 [(0, .ref 18), (1, .int (iI p)), (2, .int (iI q))] [.int (iI 1), .int (iI q), .ref 31] _ _ _ _
            refine pm_i_bst pm_a169_118 (mh_get (j := 13) hA rfl) (by omega) (by omega) ⟨by omega, by omega⟩ (by decide +kernel) (ma_13 hA _) ?_
            show pm_E _ _ _ 119 [(0, .ref 18), (1, .int (iI p)), (2, .int (iI q))] [] _ _ _ _
            refine pm_e_sim pm_a169_119 rfl ?_
            show pm_E _ _ _ 120 [(0, .ref 18), (1, .int (iI p)), (2, .int (iI q))] [.ref 18] _ _ _ _
            refine pm_i_get pm_a169_120 rfl (mh_get (j := 0) hA rfl) rfl ?_
            show pm_E _ _ _ 123 [(0, .ref 18), (1, .int (iI p)), (2, .int (iI q))] [.ref 32] _ _ _ _
            refine pm_e_sim pm_a169_123 rfl ?_
            show pm_E _ _ _ 124 [(0, .ref 18), (1, .int (iI p)), (2, .int (iI q))] [.ref 18, .ref 32] _ _ _ _
            refine pm_e_sim pm_a169_124 rfl ?_
            show pm_E _ _ _ 125 [(0, .ref 18), (1, .int (iI p)), (2, .int (iI q))] [.int (iI q), .ref 18, .ref 32] _ _ _ _
            refine pm_i_callv (k := 18) (T2 := pm_mm170) pm_a169_125 rfl rfl rfl (mh_get (j := 0) hA rfl) ⟨Nat.le_of_ble_eq_true rfl, Nat.le_of_ble_eq_true rfl, rfl, by decide +kernel⟩ ?_
            show pm_E none _ _ 0 [(0, .ref 18), (1, .int (iI q))] [] _ _ _ _
            refine M_endT hA (show ∀ j, in32 (a 4 j) from hr) (show tm (a 4) _ _ q ep by rw [e4]; exact t2) (by omega) (by omega) ?_
            show pm_E _ _ _ 128 [(0, .ref 18), (1, .int (iI p)), (2, .int (iI q))] [.int (iI ep), .ref 32] _ _ _ _
            refine pm_e_sim pm_a169_128 rfl ?_
            show pm_E _ _ _ 129 [(0, .ref 18), (1, .int (iI p)), (2, .int (iI q))] [.int (iI ep), .ref 32, .int (iI ep), .ref 32] _ _ _ _
            refine pm_i_ald pm_a169_129 (mh_get (j := 14) hA rfl) (by omega) (by omega) ⟨by omega, by omega⟩ ?_
            show pm_E _ _ _ 130 [(0, .ref 18), (1, .int (iI p)), (2, .int (iI q))] [.int (iI ((a 14) (ep))), .int (iI ep), .ref 32] _ _ _ _
            refine pm_e_sim pm_a169_130 rfl ?_
            refine pm_e_top (y := iI 1) (by decide +kernel) ?_
            show pm_E _ _ _ 131 [(0, .ref 18), (1, .int (iI p)), (2, .int (iI q))] [.int (iI 1), .int (iI ((a 14) (ep))), .int (iI ep), .ref 32] _ _ _ _
            refine pm_e_sim pm_a169_131 rfl ?_
            refine pm_e_top (y := iI ((a 14) (ep) + 1)) (iI_add _ _) ?_
            show pm_E _ _ _ 132 [(0, .ref 18), (1, .int (iI p)), (2, .int (iI q))] [.int (iI ((a 14) (ep) + 1)), .int (iI ep), .ref 32] _ _ _ _
            refine pm_i_ast pm_a169_132 (mh_get (j := 14) hA rfl) (by omega) (by omega) ⟨by omega, by omega⟩ (ma_14 hA _) ?_
            show pm_E _ _ _ 133 [(0, .ref 18), (1, .int (iI p)), (2, .int (iI q))] [] _ _ _ _
            refine pm_e_inc (y := iI (p + 1)) pm_a169_133 rfl (iI_add _ _) (by decide +kernel) rfl ?_
            show pm_E _ _ _ 136 [(0, .ref 18), (1, .int (iI (p + 1))), (2, .int (iI q))] [] _ _ _ _
            refine pm_e_goto pm_a169_136 rfl ?_
            show pm_E _ _ _ 39 [(0, .ref 18), (1, .int (iI (p + 1))), (2, .int (iI q))] [] _ _ _ _
            show pm_E _ _ _ 39 ([(0, .ref 18), (1, .int (iI (p + 1)))] ++ [(2, .int (iI q))]) [] _ _ _ _
            refine pm_e_more [(2, .int (iI q))] (show ([0, 1, 2] : List Nat).Nodup from by decide) ?_
            refine ih (p + 1) _ (by omega) (by omega) (fun j h1 h2 h3 => by simp [updA, h1, h2, h3, fA j h1 h2 h3]) ?_ ?_ (fun j z y => ?_) ?_ k (by omega)
            · exact updI_in hb (by decide)
            · exact updI_in ho (by decide)
            · show 0 ≤ updI (a 14) ep (a 14 ep + 1) j ∧ updI (a 14) ep (a 14 ep + 1) j ≤ _
              have := hc j z y; unfold updI; split
              · rename_i hj; subst hj; omega
              · omega
            · rw [show (p + 1).toNat = p.toNat + 1 by omega]
              refine al3_snoc hal ?_
              rw [show (0 : Int) + (p.toNat : Int) = p by omega]
              exact Or.inr ⟨by omega, f1, kp, q, ep, t1, t2, (rw3_ft (g := a0 4) (p := p) (m := q) (e := ep) (X := (a 12, a 13, a 14)) (by omega) (by omega)).symm⟩
        · skip
          show pm_E _ _ _ 83 [(0, .ref 18), (1, .int (iI p)), (2, .int (iI q))] [] _ _ _ _
          refine pm_e_sim pm_a169_83 rfl ?_
          show pm_E _ _ _ 84 [(0, .ref 18), (1, .int (iI p)), (2, .int (iI q))] [.ref 18] _ _ _ _
          refine pm_i_get pm_a169_84 rfl (mh_get (j := 0) hA rfl) rfl ?_
          show pm_E _ _ _ 87 [(0, .ref 18), (1, .int (iI p)), (2, .int (iI q))] [.ref 31] _ _ _ _
          refine pm_e_sim pm_a169_87 rfl ?_
          show pm_E _ _ _ 88 [(0, .ref 18), (1, .int (iI p)), (2, .int (iI q))] [.int (iI p), .ref 31] _ _ _ _
          refine pm_e_sim pm_a169_88 rfl ?_
          refine pm_e_top (y := iI 1) (by decide +kernel) ?_
          show pm_E _ _ _ 89 [(0, .ref 18), (1, .int (iI p)), (2, .int (iI q))] [.int (iI 1), .int (iI p), .ref 31] _ _ _ _
          refine pm_e_sim pm_a169_89 rfl ?_
          refine pm_e_top (y := iI (p + 1)) (iI_add _ _) ?_
          show pm_E _ _ _ 90 [(0, .ref 18), (1, .int (iI p)), (2, .int (iI q))] [.int (iI (p + 1)), .ref 31] _ _ _ _
          refine pm_e_sim pm_a169_90 rfl ?_
          refine pm_e_top (y := iI 1) (by decide +kernel) ?_
          show pm_E _ _ _ 91 [(0, .ref 18), (1, .int (iI p)), (2, .int (iI q))] [.int (iI 1), .int (iI (p + 1)), .ref 31] _ _ _ _
          refine pm_i_bst pm_a169_91 (mh_get (j := 13) hA rfl) (by omega) (by omega) ⟨by omega, by omega⟩ (by decide +kernel) (ma_13 hA _) ?_
          show pm_E _ _ _ 92 [(0, .ref 18), (1, .int (iI p)), (2, .int (iI q))] [] _ _ _ _
          refine pm_e_sim pm_a169_92 rfl ?_
          show pm_E _ _ _ 93 [(0, .ref 18), (1, .int (iI p)), (2, .int (iI q))] [.ref 18] _ _ _ _
          refine pm_i_get pm_a169_93 rfl (mh_get (j := 0) hA rfl) rfl ?_
          show pm_E _ _ _ 96 [(0, .ref 18), (1, .int (iI p)), (2, .int (iI q))] [.ref 32] _ _ _ _
          refine pm_e_sim pm_a169_96 rfl ?_
          show pm_E _ _ _ 97 [(0, .ref 18), (1, .int (iI p)), (2, .int (iI q))] [.int (iI q), .ref 32] _ _ _ _
          refine pm_e_sim pm_a169_97 rfl ?_
          show pm_E _ _ _ 98 [(0, .ref 18), (1, .int (iI p)), (2, .int (iI q))] [.int (iI q), .ref 32, .int (iI q), .ref 32] _ _ _ _
          refine pm_i_ald pm_a169_98 (mh_get (j := 14) hA rfl) (by omega) (by omega) ⟨by omega, by omega⟩ ?_
          show pm_E _ _ _ 99 [(0, .ref 18), (1, .int (iI p)), (2, .int (iI q))] [.int (iI ((a 14) (q))), .int (iI q), .ref 32] _ _ _ _
          refine pm_e_sim pm_a169_99 rfl ?_
          refine pm_e_top (y := iI 1) (by decide +kernel) ?_
          show pm_E _ _ _ 100 [(0, .ref 18), (1, .int (iI p)), (2, .int (iI q))] [.int (iI 1), .int (iI ((a 14) (q))), .int (iI q), .ref 32] _ _ _ _
          refine pm_e_sim pm_a169_100 rfl ?_
          refine pm_e_top (y := iI ((a 14) (q) + 1)) (iI_add _ _) ?_
          show pm_E _ _ _ 101 [(0, .ref 18), (1, .int (iI p)), (2, .int (iI q))] [.int (iI ((a 14) (q) + 1)), .int (iI q), .ref 32] _ _ _ _
          refine pm_i_ast pm_a169_101 (mh_get (j := 14) hA rfl) (by omega) (by omega) ⟨by omega, by omega⟩ (ma_14 hA _) ?_
          show pm_E _ _ _ 102 [(0, .ref 18), (1, .int (iI p)), (2, .int (iI q))] [] _ _ _ _
          refine pm_e_sim pm_a169_102 rfl ?_
          show pm_E _ _ _ 103 [(0, .ref 18), (1, .int (iI p)), (2, .int (iI q))] [.ref 18] _ _ _ _
          refine pm_i_get pm_a169_103 rfl (mh_get (j := 0) hA rfl) rfl ?_
          show pm_E _ _ _ 106 [(0, .ref 18), (1, .int (iI p)), (2, .int (iI q))] [.ref 22] _ _ _ _
          refine pm_e_sim pm_a169_106 rfl ?_
          show pm_E _ _ _ 107 [(0, .ref 18), (1, .int (iI p)), (2, .int (iI q))] [.int (iI q), .ref 22] _ _ _ _
          refine pm_i_ald pm_a169_107 (mh_get (j := 4) hA rfl) (by omega) (by omega) ⟨by omega, by omega⟩ ?_
          show pm_E _ _ _ 108 [(0, .ref 18), (1, .int (iI p)), (2, .int (iI q))] [.int (iI ((a 4) (q)))] _ _ _ _
          have := hr (q)
          refine pm_e_sim pm_a169_108 rfl ?_
          refine pm_e_top (y := iI 2) (by decide +kernel) ?_
          show pm_E _ _ _ 109 [(0, .ref 18), (1, .int (iI p)), (2, .int (iI q))] [.int (iI 2), .int (iI ((a 4) (q)))] _ _ _ _
          refine pm_c_ge (t := 133) pm_a169_109 rfl ⟨by omega, by omega⟩ ⟨by omega, by omega⟩ (fun h_5 => ?_) (fun h_5 => ?_)
          · skip
            show pm_E _ _ _ 133 [(0, .ref 18), (1, .int (iI p)), (2, .int (iI q))] [] _ _ _ _
            refine pm_e_inc (y := iI (p + 1)) pm_a169_133 rfl (iI_add _ _) (by decide +kernel) rfl ?_
            show pm_E _ _ _ 136 [(0, .ref 18), (1, .int (iI (p + 1))), (2, .int (iI q))] [] _ _ _ _
            refine pm_e_goto pm_a169_136 rfl ?_
            show pm_E _ _ _ 39 [(0, .ref 18), (1, .int (iI (p + 1))), (2, .int (iI q))] [] _ _ _ _
            show pm_E _ _ _ 39 ([(0, .ref 18), (1, .int (iI (p + 1)))] ++ [(2, .int (iI q))]) [] _ _ _ _
            refine pm_e_more [(2, .int (iI q))] (show ([0, 1, 2] : List Nat).Nodup from by decide) ?_
            refine ih (p + 1) _ (by omega) (by omega) (fun j h1 h2 h3 => by simp [updA, h1, h2, h3, fA j h1 h2 h3]) ?_ ?_ (fun j z y => ?_) ?_ k (by omega)
            · exact updI_in hb (by decide)
            · exact updI_in ho (by decide)
            · show 0 ≤ updI (a 14) q (a 14 q + 1) j ∧ updI (a 14) q (a 14 q + 1) j ≤ _
              have := hc j z y; unfold updI; split
              · rename_i hj; subst hj; omega
              · omega
            · rw [show (p + 1).toNat = p.toNat + 1 by omega]
              refine al3_snoc hal ?_
              rw [show (0 : Int) + (p.toNat : Int) = p by omega]
              exact Or.inr ⟨by omega, f1, kp, q, ep, t1, t2, (rw3_tf (g := a0 4) (p := p) (m := q) (e := ep) (X := (a 12, a 13, a 14)) (by omega) (by omega)).symm⟩
          · skip
            show pm_E _ _ _ 112 [(0, .ref 18), (1, .int (iI p)), (2, .int (iI q))] [] _ _ _ _
            refine pm_e_sim pm_a169_112 rfl ?_
            show pm_E _ _ _ 113 [(0, .ref 18), (1, .int (iI p)), (2, .int (iI q))] [.ref 18] _ _ _ _
            refine pm_i_get pm_a169_113 rfl (mh_get (j := 0) hA rfl) rfl ?_
            show pm_E _ _ _ 116 [(0, .ref 18), (1, .int (iI p)), (2, .int (iI q))] [.ref 31] _ _ _ _
            refine pm_e_sim pm_a169_116 rfl ?_
            show pm_E _ _ _ 117 [(0, .ref 18), (1, .int (iI p)), (2, .int (iI q))] [.int (iI q), .ref 31] _ _ _ _
            refine pm_e_sim pm_a169_117 rfl ?_
            refine pm_e_top (y := iI 1) (by decide +kernel) ?_
            show pm_E _ _ _ 118 [(0, .ref 18), (1, .int (iI p)), (2, .int (iI q))] [.int (iI 1), .int (iI q), .ref 31] _ _ _ _
            refine pm_i_bst pm_a169_118 (mh_get (j := 13) hA rfl) (by omega) (by omega) ⟨by omega, by omega⟩ (by decide +kernel) (ma_13 hA _) ?_
            show pm_E _ _ _ 119 [(0, .ref 18), (1, .int (iI p)), (2, .int (iI q))] [] _ _ _ _
            refine pm_e_sim pm_a169_119 rfl ?_
            show pm_E _ _ _ 120 [(0, .ref 18), (1, .int (iI p)), (2, .int (iI q))] [.ref 18] _ _ _ _
            refine pm_i_get pm_a169_120 rfl (mh_get (j := 0) hA rfl) rfl ?_
            show pm_E _ _ _ 123 [(0, .ref 18), (1, .int (iI p)), (2, .int (iI q))] [.ref 32] _ _ _ _
            refine pm_e_sim pm_a169_123 rfl ?_
            show pm_E _ _ _ 124 [(0, .ref 18), (1, .int (iI p)), (2, .int (iI q))] [.ref 18, .ref 32] _ _ _ _
            refine pm_e_sim pm_a169_124 rfl ?_
            show pm_E _ _ _ 125 [(0, .ref 18), (1, .int (iI p)), (2, .int (iI q))] [.int (iI q), .ref 18, .ref 32] _ _ _ _
            refine pm_i_callv (k := 18) (T2 := pm_mm170) pm_a169_125 rfl rfl rfl (mh_get (j := 0) hA rfl) ⟨Nat.le_of_ble_eq_true rfl, Nat.le_of_ble_eq_true rfl, rfl, by decide +kernel⟩ ?_
            show pm_E none _ _ 0 [(0, .ref 18), (1, .int (iI q))] [] _ _ _ _
            refine M_endT hA (show ∀ j, in32 (a 4 j) from hr) (show tm (a 4) _ _ q ep by rw [e4]; exact t2) (by omega) (by omega) ?_
            show pm_E _ _ _ 128 [(0, .ref 18), (1, .int (iI p)), (2, .int (iI q))] [.int (iI ep), .ref 32] _ _ _ _
            refine pm_e_sim pm_a169_128 rfl ?_
            show pm_E _ _ _ 129 [(0, .ref 18), (1, .int (iI p)), (2, .int (iI q))] [.int (iI ep), .ref 32, .int (iI ep), .ref 32] _ _ _ _
            refine pm_i_ald pm_a169_129 (mh_get (j := 14) hA rfl) (by omega) (by omega) ⟨by omega, by omega⟩ ?_
            show pm_E _ _ _ 130 [(0, .ref 18), (1, .int (iI p)), (2, .int (iI q))] [.int (iI ((updI (a 14) (q) ((a 14) (q) + 1)) (ep))), .int (iI ep), .ref 32] _ _ _ _
            refine pm_e_sim pm_a169_130 rfl ?_
            refine pm_e_top (y := iI 1) (by decide +kernel) ?_
            show pm_E _ _ _ 131 [(0, .ref 18), (1, .int (iI p)), (2, .int (iI q))] [.int (iI 1), .int (iI ((updI (a 14) (q) ((a 14) (q) + 1)) (ep))), .int (iI ep), .ref 32] _ _ _ _
            refine pm_e_sim pm_a169_131 rfl ?_
            refine pm_e_top (y := iI ((updI (a 14) (q) ((a 14) (q) + 1)) (ep) + 1)) (iI_add _ _) ?_
            show pm_E _ _ _ 132 [(0, .ref 18), (1, .int (iI p)), (2, .int (iI q))] [.int (iI ((updI (a 14) (q) ((a 14) (q) + 1)) (ep) + 1)), .int (iI ep), .ref 32] _ _ _ _
            refine pm_i_ast pm_a169_132 (mh_get (j := 14) hA rfl) (by omega) (by omega) ⟨by omega, by omega⟩ (ma_14 hA _) ?_
            show pm_E _ _ _ 133 [(0, .ref 18), (1, .int (iI p)), (2, .int (iI q))] [] _ _ _ _
            refine pm_e_inc (y := iI (p + 1)) pm_a169_133 rfl (iI_add _ _) (by decide +kernel) rfl ?_
            show pm_E _ _ _ 136 [(0, .ref 18), (1, .int (iI (p + 1))), (2, .int (iI q))] [] _ _ _ _
            refine pm_e_goto pm_a169_136 rfl ?_
            show pm_E _ _ _ 39 [(0, .ref 18), (1, .int (iI (p + 1))), (2, .int (iI q))] [] _ _ _ _
            show pm_E _ _ _ 39 ([(0, .ref 18), (1, .int (iI (p + 1)))] ++ [(2, .int (iI q))]) [] _ _ _ _
            refine pm_e_more [(2, .int (iI q))] (show ([0, 1, 2] : List Nat).Nodup from by decide) ?_
            refine ih (p + 1) _ (by omega) (by omega) (fun j h1 h2 h3 => by simp [updA, h1, h2, h3, fA j h1 h2 h3]) ?_ ?_ (fun j z y => ?_) ?_ k (by omega)
            · exact updI_in hb (by decide)
            · exact updI_in (updI_in ho (by decide)) (by decide)
            · show 0 ≤ updI (updI (a 14) q (a 14 q + 1)) ep ((updI (a 14) q (a 14 q + 1)) ep + 1) j ∧ updI (updI (a 14) q (a 14 q + 1)) ep ((updI (a 14) q (a 14 q + 1)) ep + 1) j ≤ _
              have h1 := hc j z y; have h2 := hc ep (by omega) (by omega); have h3 := hc q (by omega) (by omega); unfold updI; repeat' split
              all_goals first | omega | (rename_i hj; subst hj; omega) | (rename_i hj _; subst hj; omega) | (rename_i hj hk; subst hj; subst hk; omega)
            · rw [show (p + 1).toNat = p.toNat + 1 by omega]
              refine al3_snoc hal ?_
              rw [show (0 : Int) + (p.toNat : Int) = p by omega]
              exact Or.inr ⟨by omega, f1, kp, q, ep, t1, t2, (rw3_tt (g := a0 4) (p := p) (m := q) (e := ep) (X := (a 12, a 13, a 14)) (by omega) (by omega)).symm⟩
set_option maxHeartbeats 4000000 in
set_option maxRecDepth 100000 in
theorem M_sayTerm_k {d : Nat} {A B : List va_E} {vl : Int64} {nm : Nat → Int64} {Q : Option Value → List va_E → Nat → Nat → Prop} {s0 : Nat → Int} {a0 : Nat → Int → Int} {i : Int} {Y : List Int} (hA : A.length = 18) (hi0 : 0 ≤ i) (hi1 : i ≤ 500) (hci : 0 ≤ a0 14 i ∧ a0 14 i ≤ 1000) (hY : (Y.length : Int) + a0 14 i ≤ 3000) : ∀ (f : Nat) (k : Int) (s : Nat → Int) (a : Nat → Int → Int), 0 ≤ k → k ≤ a0 14 i → (∀ j, j ≠ 23 → s j = s0 j) → (∀ j, j ≠ 11 → a j = a0 j) → TXs s a (Y ++ List.replicate k.toNat 41) → (∀ (s : Nat → Int) (a : Nat → Int → Int), (∀ j, j ≠ 23 → s j = s0 j) → (∀ j, j ≠ 11 → a j = a0 j) → TXs s a (Y ++ List.replicate (a0 14 i).toNat 41) → ∀ k', pm_E none (d + 2) pm_mm169 183 [(0, .ref 18), (1, .int (iI i)), (2, .int (iI (k')))] [] (mh A s vl a nm B) 0 0 Q) → a0 14 i - k < (f : Int) → pm_E none (d + 2) pm_mm169 161 [(0, .ref 18), (1, .int (iI i)), (2, .int (iI k))] [] (mh A s vl a nm B) 0 0 Q := by
  intro f
  induction f with
  | zero =>
    intro k s a h0 h1 fS fA hT kk hf
    exfalso; omega
  | succ f ih =>
    intro k s a h0 h1 fS fA hT kk hf
    have e14 : a 14 = a0 14 := fA 14 (by omega)
    have e14i : a 14 i = a0 14 i := by rw [e14]
    refine pm_e_sim pm_a169_161 rfl ?_
    show pm_E _ _ _ 162 [(0, .ref 18), (1, .int (iI i)), (2, .int (iI k))] [.int (iI k)] _ _ _ _
    refine pm_e_sim pm_a169_162 rfl ?_
    show pm_E _ _ _ 163 [(0, .ref 18), (1, .int (iI i)), (2, .int (iI k))] [.ref 18, .int (iI k)] _ _ _ _
    refine pm_i_get pm_a169_163 rfl (mh_get (j := 0) hA rfl) rfl ?_
    show pm_E _ _ _ 166 [(0, .ref 18), (1, .int (iI i)), (2, .int (iI k))] [.ref 32, .int (iI k)] _ _ _ _
    refine pm_e_sim pm_a169_166 rfl ?_
    show pm_E _ _ _ 167 [(0, .ref 18), (1, .int (iI i)), (2, .int (iI k))] [.int (iI i), .ref 32, .int (iI k)] _ _ _ _
    refine pm_i_ald pm_a169_167 (mh_get (j := 14) hA rfl) (by omega) (by omega) ⟨by omega, by omega⟩ ?_
    show pm_E _ _ _ 168 [(0, .ref 18), (1, .int (iI i)), (2, .int (iI k))] [.int (iI ((a 14) (i))), .int (iI k)] _ _ _ _
    refine pm_c_ge (t := 183) pm_a169_168 rfl ⟨by omega, by omega⟩ ⟨by omega, by omega⟩ (fun h_1 => ?_) (fun h_1 => ?_)
    · skip
      show pm_E _ _ _ 183 [(0, .ref 18), (1, .int (iI i)), (2, .int (iI k))] [] _ _ _ _
      exact kk s a fS fA (by rw [show a0 14 i = k by omega]; exact hT) _
    · skip
      show pm_E _ _ _ 171 [(0, .ref 18), (1, .int (iI i)), (2, .int (iI k))] [] _ _ _ _
      refine pm_e_sim pm_a169_171 rfl ?_
      show pm_E _ _ _ 172 [(0, .ref 18), (1, .int (iI i)), (2, .int (iI k))] [.ref 18] _ _ _ _
      refine pm_e_sim pm_a169_172 rfl ?_
      refine pm_e_top (y := iI 41) (by decide +kernel) ?_
      show pm_E _ _ _ 174 [(0, .ref 18), (1, .int (iI i)), (2, .int (iI k))] [.int (iI 41), .ref 18] _ _ _ _
      refine pm_i_callv (k := 18) (T2 := pm_mm172) pm_a169_174 rfl rfl rfl (mh_get (j := 0) hA rfl) ⟨Nat.le_of_ble_eq_true rfl, Nat.le_of_ble_eq_true rfl, rfl, by decide +kernel⟩ ?_
      show pm_E none _ _ 0 [(0, .ref 18), (1, .int (iI 41))] [] _ _ _ _
      refine M_sayT hA hT (by first | omega | (simp only [List.length_append, List.length_cons, List.length_nil, List.length_replicate]; omega)) (fun s1 a1 gs ga t1 => ?_)
      show pm_E _ _ _ 177 [(0, .ref 18), (1, .int (iI i)), (2, .int (iI k))] [] _ _ _ _
      refine pm_e_inc (y := iI (k + 1)) pm_a169_177 rfl (iI_add _ _) (by decide +kernel) rfl ?_
      show pm_E _ _ _ 180 [(0, .ref 18), (1, .int (iI i)), (2, .int (iI (k + 1)))] [] _ _ _ _
      refine pm_e_goto pm_a169_180 rfl ?_
      show pm_E _ _ _ 161 [(0, .ref 18), (1, .int (iI i)), (2, .int (iI (k + 1)))] [] _ _ _ _
      refine ih (k + 1) s1 a1 (by omega) (by omega) (fun j hj => (gs j hj).trans (fS j hj)) (fun j hj => (ga j hj).trans (fA j hj)) ?_ kk (by omega)
      rw [rep_s h0, ← List.append_assoc]
      exact t1
set_option maxHeartbeats 4000000 in
set_option maxRecDepth 100000 in
theorem M_sayTerm_3 {d : Nat} {A B : List va_E} {vl : Int64} {nm : Nat → Int64} {Q : Option Value → List va_E → Nat → Nat → Prop} {s0 : Nat → Int} {a0 : Nat → Int → Int} (hA : A.length = 18) (h6 : 0 ≤ s0 6) (h61 : s0 6 ≤ 500) (hr : ∀ j, in32 (a0 4 j)) (hb : ∀ j, in32 (a0 12 j)) (ho : ∀ j, in32 (a0 13 j)) (hd : ∀ j, 0 ≤ j → j < s0 6 → 0 ≤ a0 5 j ∧ a0 5 j ≤ 1000) (hv : ∀ j, 0 ≤ j → j < s0 6 → 9 < a0 4 j → a0 4 j < 10 + a0 5 j) (hv0 : ∀ j, 0 ≤ j → j < s0 6 → 0 ≤ a0 4 j ∧ (a0 4 j ≤ 6 ∨ 9 < a0 4 j)) (hc : ∀ j, 0 ≤ j → j < s0 6 + 1 → 0 ≤ a0 14 j ∧ a0 14 j ≤ 1000) (hle : ∀ j, 0 ≤ j → j ≤ s0 6 → (sq3 (updI (a0 4) (s0 6) 0) (a0 5) (a0 12, a0 13, a0 14) (j.toNat + 1) 0).length ≤ 3000) : ∀ (f : Nat) (i : Int) (s : Nat → Int) (a : Nat → Int → Int), 0 ≤ i → i ≤ s0 6 + 1 → (∀ j, j ≠ 23 → s j = s0 j) → (∀ j, j ≠ 11 → a j = a0 j) → TXs s a (sq3 (updI (a0 4) (s0 6) 0) (a0 5) (a0 12, a0 13, a0 14) i.toNat 0) → (∀ (s : Nat → Int) (a : Nat → Int → Int), (∀ j, j ≠ 23 → s j = s0 j) → (∀ j, j ≠ 11 → a j = a0 j) → TXs s a (sq3 (updI (a0 4) (s0 6) 0) (a0 5) (a0 12, a0 13, a0 14) ((s0 6).toNat + 1) 0) → Q none (mh A s vl a nm B) 0 0) → s0 6 + 1 - i < (f : Int) → pm_E none (d + 2) pm_mm169 151 [(0, .ref 18), (1, .int (iI i))] [] (mh A s vl a nm B) 0 0 Q := by
  intro f
  induction f with
  | zero =>
    intro i s a h0 h1 fS fA hT kk hf
    exfalso; omega
  | succ f ih =>
    intro i s a h0 h1 fS fA hT kk hf
    have e6 := fS 6 (by omega)
    have hlY : i ≤ s0 6 → (sq3 (updI (a0 4) (s0 6) 0) (a0 5) (a0 12, a0 13, a0 14) i.toNat 0).length + (a0 14 i).toNat ≤ 3000 := fun z => by
      have h9 := hle i h0 z
      rw [sq3_snoc, show (0 : Int) + (i.toNat : Int) = i by omega] at h9
      unfold gp3 at h9
      simp only [List.length_append, List.length_replicate] at h9
      omega
    refine pm_e_sim pm_a169_151 rfl ?_
    show pm_E _ _ _ 152 [(0, .ref 18), (1, .int (iI i))] [.int (iI i)] _ _ _ _
    refine pm_e_sim pm_a169_152 rfl ?_
    show pm_E _ _ _ 153 [(0, .ref 18), (1, .int (iI i))] [.ref 18, .int (iI i)] _ _ _ _
    refine pm_i_get pm_a169_153 rfl (mh_get (j := 0) hA rfl) rfl ?_
    show pm_E _ _ _ 156 [(0, .ref 18), (1, .int (iI i))] [.int (iI (s 6)), .int (iI i)] _ _ _ _
    refine pm_c_gt (t := 344) pm_a169_156 rfl ⟨by omega, by omega⟩ ⟨by omega, by omega⟩ (fun h_1 => ?_) (fun h_1 => ?_)
    · skip
      show pm_E _ _ _ 344 [(0, .ref 18), (1, .int (iI i))] [] _ _ _ _
      refine pm_e_ret pm_a169_344 rfl rfl rfl rfl rfl rfl rfl rfl ?_
      exact kk s a fS fA (by rw [show (s0 6).toNat + 1 = i.toNat by omega]; exact hT)
    · skip
      show pm_E _ _ _ 159 [(0, .ref 18), (1, .int (iI i))] [] _ _ _ _
      refine pm_e_sim pm_a169_159 rfl ?_
      refine pm_e_top (y := iI 0) (by decide +kernel) ?_
      show pm_E _ _ _ 160 [(0, .ref 18), (1, .int (iI i))] [.int (iI 0)] _ _ _ _
      refine pm_e_sim pm_a169_160 rfl ?_
      show pm_E _ _ _ 161 [(0, .ref 18), (1, .int (iI i)), (2, .int (iI 0))] [] _ _ _ _
      have hci9 := hc i (by omega) (by omega)
      refine M_sayTerm_k (Y := sq3 (updI (a0 4) (s0 6) 0) (a0 5) (a0 12, a0 13, a0 14) i.toNat 0) hA (by omega) (by omega) hci9 (by omega) (a0 14 i + 1).toNat 0 s a (by omega) (by omega) fS fA (by show TXs s a (_ ++ []); rw [List.append_nil]; exact hT) ?_ (by omega)
      have hi9 : i ≤ s0 6 := by omega
      clear h_1 e6 fS fA hT s a
      intro s a fS fA hT k'
      generalize hYe : sq3 (updI (a0 4) (s0 6) 0) (a0 5) (a0 12, a0 13, a0 14) i.toNat 0 = Y at hT hlY
      have e6 := fS 6 (by omega)
      have e4 : a 4 = a0 4 := fA 4 (by omega)
      have e5 : a 5 = a0 5 := fA 5 (by omega)
      have e12 : a 12 = a0 12 := fA 12 (by omega)
      have e13 : a 13 = a0 13 := fA 13 (by omega)
      have hbi := hb i
      have hoi := ho i
      have hri := hr i
      have e4i : a 4 i = a0 4 i := by rw [e4]
      have e5i : a 5 i = a0 5 i := by rw [e5]
      have e12i : a 12 i = a0 12 i := by rw [e12]
      have e13i : a 13 i = a0 13 i := by rw [e13]
      have hdi : i < s0 6 → 0 ≤ a0 5 i ∧ a0 5 i ≤ 1000 := hd i (by omega)
      have hvi : i < s0 6 → 9 < a0 4 i → a0 4 i < 10 + a0 5 i := hv i (by omega)
      have hv1 : i < s0 6 → 0 ≤ a0 4 i ∧ (a0 4 i ≤ 6 ∨ 9 < a0 4 i) := hv0 i (by omega)
      refine pm_e_sim pm_a169_183 rfl ?_
      show pm_E _ _ _ 184 [(0, .ref 18), (1, .int (iI i)), (2, .int (iI (k')))] [.ref 18] _ _ _ _
      refine pm_i_get pm_a169_184 rfl (mh_get (j := 0) hA rfl) rfl ?_
      show pm_E _ _ _ 187 [(0, .ref 18), (1, .int (iI i)), (2, .int (iI (k')))] [.ref 30] _ _ _ _
      refine pm_e_sim pm_a169_187 rfl ?_
      show pm_E _ _ _ 188 [(0, .ref 18), (1, .int (iI i)), (2, .int (iI (k')))] [.int (iI i), .ref 30] _ _ _ _
      refine pm_i_bld pm_a169_188 (mh_get (j := 12) hA rfl) (by omega) (by omega) ⟨by omega, by omega⟩ ?_
      show pm_E _ _ _ 189 [(0, .ref 18), (1, .int (iI i)), (2, .int (iI (k')))] [.int (iI ((a 12) (i)))] _ _ _ _
      refine pm_i_eq (t := 198) pm_a169_189 rfl ⟨by omega, by omega⟩ (fun h_301 => ?_) (fun h_301 => ?_)
      · skip
        show pm_E _ _ _ 198 [(0, .ref 18), (1, .int (iI i)), (2, .int (iI (k')))] [] _ _ _ _
        refine pm_e_sim pm_a169_198 rfl ?_
        show pm_E _ _ _ 199 [(0, .ref 18), (1, .int (iI i)), (2, .int (iI (k')))] [.ref 18] _ _ _ _
        refine pm_i_get pm_a169_199 rfl (mh_get (j := 0) hA rfl) rfl ?_
        show pm_E _ _ _ 202 [(0, .ref 18), (1, .int (iI i)), (2, .int (iI (k')))] [.ref 31] _ _ _ _
        refine pm_e_sim pm_a169_202 rfl ?_
        show pm_E _ _ _ 203 [(0, .ref 18), (1, .int (iI i)), (2, .int (iI (k')))] [.int (iI i), .ref 31] _ _ _ _
        refine pm_i_bld pm_a169_203 (mh_get (j := 13) hA rfl) (by omega) (by omega) ⟨by omega, by omega⟩ ?_
        show pm_E _ _ _ 204 [(0, .ref 18), (1, .int (iI i)), (2, .int (iI (k')))] [.int (iI ((a 13) (i)))] _ _ _ _
        refine pm_i_eq (t := 213) pm_a169_204 rfl ⟨by omega, by omega⟩ (fun h_302 => ?_) (fun h_302 => ?_)
        · skip
          show pm_E _ _ _ 213 [(0, .ref 18), (1, .int (iI i)), (2, .int (iI (k')))] [] _ _ _ _
          refine pm_e_sim pm_a169_213 rfl ?_
          show pm_E _ _ _ 214 [(0, .ref 18), (1, .int (iI i)), (2, .int (iI (k')))] [.int (iI i)] _ _ _ _
          refine pm_e_sim pm_a169_214 rfl ?_
          show pm_E _ _ _ 215 [(0, .ref 18), (1, .int (iI i)), (2, .int (iI (k')))] [.ref 18, .int (iI i)] _ _ _ _
          refine pm_i_get pm_a169_215 rfl (mh_get (j := 0) hA rfl) rfl ?_
          show pm_E _ _ _ 218 [(0, .ref 18), (1, .int (iI i)), (2, .int (iI (k')))] [.int (iI (s 6)), .int (iI i)] _ _ _ _
          refine pm_c_ge (t := 230) pm_a169_218 rfl ⟨by omega, by omega⟩ ⟨by omega, by omega⟩ (fun h_303 => ?_) (fun h_303 => ?_)
          · skip
            show pm_E _ _ _ 230 [(0, .ref 18), (1, .int (iI i)), (2, .int (iI (k')))] [] _ _ _ _
            refine pm_e_sim pm_a169_230 rfl ?_
            refine pm_e_top (y := iI 0) (by decide +kernel) ?_
            show pm_E _ _ _ 231 [(0, .ref 18), (1, .int (iI i)), (2, .int (iI (k')))] [.int (iI 0)] _ _ _ _
            refine pm_e_sim pm_a169_231 rfl ?_
            show pm_E _ _ _ 232 [(0, .ref 18), (1, .int (iI i)), (2, .int (iI 0))] [] _ _ _ _
            refine pm_e_sim pm_a169_232 rfl ?_
            show pm_E _ _ _ 233 [(0, .ref 18), (1, .int (iI i)), (2, .int (iI 0))] [.int (iI 0)] _ _ _ _
            refine pm_e_sim pm_a169_233 rfl ?_
            refine pm_e_top (y := iI 1) (by decide +kernel) ?_
            show pm_E _ _ _ 234 [(0, .ref 18), (1, .int (iI i)), (2, .int (iI 0))] [.int (iI 1), .int (iI 0)] _ _ _ _
            refine pm_e_ict pm_a169_234 rfl (by decide +kernel) ?_
            show pm_E _ _ _ 262 [(0, .ref 18), (1, .int (iI i)), (2, .int (iI 0))] [] _ _ _ _
            refine pm_e_sim pm_a169_262 rfl ?_
            show pm_E _ _ _ 263 [(0, .ref 18), (1, .int (iI i)), (2, .int (iI 0))] [.int (iI 0)] _ _ _ _
            refine pm_e_sim pm_a169_263 rfl ?_
            refine pm_e_top (y := iI 9) (by decide +kernel) ?_
            show pm_E _ _ _ 265 [(0, .ref 18), (1, .int (iI i)), (2, .int (iI 0))] [.int (iI 9), .int (iI 0)] _ _ _ _
            refine pm_e_ict pm_a169_265 rfl (by decide +kernel) ?_
            show pm_E _ _ _ 288 [(0, .ref 18), (1, .int (iI i)), (2, .int (iI 0))] [] _ _ _ _
            refine pm_e_sim pm_a169_288 rfl ?_
            show pm_E _ _ _ 289 [(0, .ref 18), (1, .int (iI i)), (2, .int (iI 0))] [.int (iI 0)] _ _ _ _
            refine pm_e_ift pm_a169_289 rfl (by decide +kernel) ?_
            show pm_E _ _ _ 338 [(0, .ref 18), (1, .int (iI i)), (2, .int (iI 0))] [] _ _ _ _
            refine pm_e_inc (y := iI (i + 1)) pm_a169_338 rfl (iI_add _ _) (by decide +kernel) rfl ?_
            show pm_E _ _ _ 341 [(0, .ref 18), (1, .int (iI (i + 1))), (2, .int (iI 0))] [] _ _ _ _
            refine pm_e_goto pm_a169_341 rfl ?_
            show pm_E _ _ _ 151 [(0, .ref 18), (1, .int (iI (i + 1))), (2, .int (iI 0))] [] _ _ _ _
            show pm_E _ _ _ 151 ([(0, .ref 18), (1, .int (iI (i + 1)))] ++ [(2, .int (iI 0))]) [] _ _ _ _
            refine pm_e_more [(2, .int (iI 0))] (show ([0, 1, 2] : List Nat).Nodup from by decide) ?_
            first
            | (exfalso; omega)
            | (skip
               have e9 : sq3 (updI (a0 4) (s0 6) 0) (a0 5) (a0 12, a0 13, a0 14) (i + 1).toNat 0 = (Y ++ List.replicate (a0 14 i).toNat 41) := by
                 rw [show (i + 1).toNat = i.toNat + 1 by omega, sq3_snoc, show (0 : Int) + (i.toNat : Int) = i by omega, hYe]
                 rw [gp3_e (u := []) (v := []) (if_neg (by show ¬ a0 12 i ≠ 0; omega)) (if_neg (by show ¬ a0 13 i ≠ 0; omega))]
                 rw [show (updI (a0 4) (s0 6) 0) i = 0 by unfold updI; split <;> omega, txN_0]
                 try dsimp only
                 simp only [List.append_assoc, List.cons_append, List.nil_append, List.append_nil]
               rw [← e9] at hT
               exact ih (i + 1) s a (by omega) (by omega) fS fA hT kk (by omega))
          · skip
            show pm_E _ _ _ 221 [(0, .ref 18), (1, .int (iI i)), (2, .int (iI (k')))] [] _ _ _ _
            refine pm_e_sim pm_a169_221 rfl ?_
            show pm_E _ _ _ 222 [(0, .ref 18), (1, .int (iI i)), (2, .int (iI (k')))] [.ref 18] _ _ _ _
            refine pm_i_get pm_a169_222 rfl (mh_get (j := 0) hA rfl) rfl ?_
            show pm_E _ _ _ 225 [(0, .ref 18), (1, .int (iI i)), (2, .int (iI (k')))] [.ref 22] _ _ _ _
            refine pm_e_sim pm_a169_225 rfl ?_
            show pm_E _ _ _ 226 [(0, .ref 18), (1, .int (iI i)), (2, .int (iI (k')))] [.int (iI i), .ref 22] _ _ _ _
            refine pm_i_ald pm_a169_226 (mh_get (j := 4) hA rfl) (by omega) (by omega) ⟨by omega, by omega⟩ ?_
            show pm_E _ _ _ 227 [(0, .ref 18), (1, .int (iI i)), (2, .int (iI (k')))] [.int (iI ((a 4) (i)))] _ _ _ _
            refine pm_e_goto pm_a169_227 rfl ?_
            show pm_E _ _ _ 231 [(0, .ref 18), (1, .int (iI i)), (2, .int (iI (k')))] [.int (iI ((a 4) (i)))] _ _ _ _
            refine pm_e_sim pm_a169_231 rfl ?_
            show pm_E _ _ _ 232 [(0, .ref 18), (1, .int (iI i)), (2, .int (iI ((a 4) (i))))] [] _ _ _ _
            refine pm_e_sim pm_a169_232 rfl ?_
            show pm_E _ _ _ 233 [(0, .ref 18), (1, .int (iI i)), (2, .int (iI ((a 4) (i))))] [.int (iI ((a 4) (i)))] _ _ _ _
            refine pm_e_sim pm_a169_233 rfl ?_
            refine pm_e_top (y := iI 1) (by decide +kernel) ?_
            show pm_E _ _ _ 234 [(0, .ref 18), (1, .int (iI i)), (2, .int (iI ((a 4) (i))))] [.int (iI 1), .int (iI ((a 4) (i)))] _ _ _ _
            refine pm_c_ne (t := 262) pm_a169_234 rfl ⟨by omega, by omega⟩ ⟨by omega, by omega⟩ (fun h_304 => ?_) (fun h_304 => ?_)
            · skip
              show pm_E _ _ _ 262 [(0, .ref 18), (1, .int (iI i)), (2, .int (iI ((a 4) (i))))] [] _ _ _ _
              refine pm_e_sim pm_a169_262 rfl ?_
              show pm_E _ _ _ 263 [(0, .ref 18), (1, .int (iI i)), (2, .int (iI ((a 4) (i))))] [.int (iI ((a 4) (i)))] _ _ _ _
              refine pm_e_sim pm_a169_263 rfl ?_
              refine pm_e_top (y := iI 9) (by decide +kernel) ?_
              show pm_E _ _ _ 265 [(0, .ref 18), (1, .int (iI i)), (2, .int (iI ((a 4) (i))))] [.int (iI 9), .int (iI ((a 4) (i)))] _ _ _ _
              refine pm_c_le (t := 288) pm_a169_265 rfl ⟨by omega, by omega⟩ ⟨by omega, by omega⟩ (fun h_305 => ?_) (fun h_305 => ?_)
              · skip
                show pm_E _ _ _ 288 [(0, .ref 18), (1, .int (iI i)), (2, .int (iI ((a 4) (i))))] [] _ _ _ _
                refine pm_e_sim pm_a169_288 rfl ?_
                show pm_E _ _ _ 289 [(0, .ref 18), (1, .int (iI i)), (2, .int (iI ((a 4) (i))))] [.int (iI ((a 4) (i)))] _ _ _ _
                refine pm_i_eq (t := 338) pm_a169_289 rfl ⟨by omega, by omega⟩ (fun h_306 => ?_) (fun h_306 => ?_)
                · skip
                  show pm_E _ _ _ 338 [(0, .ref 18), (1, .int (iI i)), (2, .int (iI ((a 4) (i))))] [] _ _ _ _
                  refine pm_e_inc (y := iI (i + 1)) pm_a169_338 rfl (iI_add _ _) (by decide +kernel) rfl ?_
                  show pm_E _ _ _ 341 [(0, .ref 18), (1, .int (iI (i + 1))), (2, .int (iI ((a 4) (i))))] [] _ _ _ _
                  refine pm_e_goto pm_a169_341 rfl ?_
                  show pm_E _ _ _ 151 [(0, .ref 18), (1, .int (iI (i + 1))), (2, .int (iI ((a 4) (i))))] [] _ _ _ _
                  show pm_E _ _ _ 151 ([(0, .ref 18), (1, .int (iI (i + 1)))] ++ [(2, .int (iI ((a 4) (i))))]) [] _ _ _ _
                  refine pm_e_more [(2, .int (iI ((a 4) (i))))] (show ([0, 1, 2] : List Nat).Nodup from by decide) ?_
                  first
                  | (exfalso; omega)
                  | (skip
                     have e9 : sq3 (updI (a0 4) (s0 6) 0) (a0 5) (a0 12, a0 13, a0 14) (i + 1).toNat 0 = (Y ++ List.replicate (a0 14 i).toNat 41) := by
                       rw [show (i + 1).toNat = i.toNat + 1 by omega, sq3_snoc, show (0 : Int) + (i.toNat : Int) = i by omega, hYe]
                       rw [gp3_e (u := []) (v := []) (if_neg (by show ¬ a0 12 i ≠ 0; omega)) (if_neg (by show ¬ a0 13 i ≠ 0; omega))]
                       rw [show (updI (a0 4) (s0 6) 0) i = 0 by unfold updI; split <;> omega, txN_0]
                       try dsimp only
                       simp only [List.append_assoc, List.cons_append, List.nil_append, List.append_nil]
                     rw [← e9] at hT
                     exact ih (i + 1) s a (by omega) (by omega) fS fA hT kk (by omega))
                · skip
                  show pm_E _ _ _ 292 [(0, .ref 18), (1, .int (iI i)), (2, .int (iI ((a 4) (i))))] [] _ _ _ _
                  refine pm_e_sim pm_a169_292 rfl ?_
                  show pm_E _ _ _ 293 [(0, .ref 18), (1, .int (iI i)), (2, .int (iI ((a 4) (i))))] [.ref 18] _ _ _ _
                  refine pm_e_sim pm_a169_293 rfl ?_
                  show pm_E _ _ _ 294 [(0, .ref 18), (1, .int (iI i)), (2, .int (iI ((a 4) (i))))] [.int (iI ((a 4) (i))), .ref 18] _ _ _ _
                  refine pm_e_sim pm_a169_294 rfl ?_
                  refine pm_e_top (y := iI 2) (by decide +kernel) ?_
                  show pm_E _ _ _ 295 [(0, .ref 18), (1, .int (iI i)), (2, .int (iI ((a 4) (i))))] [.int (iI 2), .int (iI ((a 4) (i))), .ref 18] _ _ _ _
                  refine pm_c_ne (t := 303) pm_a169_295 rfl ⟨by omega, by omega⟩ ⟨by omega, by omega⟩ (fun h_307 => ?_) (fun h_307 => ?_)
                  · skip
                    show pm_E _ _ _ 303 [(0, .ref 18), (1, .int (iI i)), (2, .int (iI ((a 4) (i))))] [.ref 18] _ _ _ _
                    refine pm_e_sim pm_a169_303 rfl ?_
                    show pm_E _ _ _ 304 [(0, .ref 18), (1, .int (iI i)), (2, .int (iI ((a 4) (i))))] [.int (iI ((a 4) (i))), .ref 18] _ _ _ _
                    refine pm_e_sim pm_a169_304 rfl ?_
                    refine pm_e_top (y := iI 3) (by decide +kernel) ?_
                    show pm_E _ _ _ 305 [(0, .ref 18), (1, .int (iI i)), (2, .int (iI ((a 4) (i))))] [.int (iI 3), .int (iI ((a 4) (i))), .ref 18] _ _ _ _
                    refine pm_c_ne (t := 313) pm_a169_305 rfl ⟨by omega, by omega⟩ ⟨by omega, by omega⟩ (fun h_308 => ?_) (fun h_308 => ?_)
                    · skip
                      show pm_E _ _ _ 313 [(0, .ref 18), (1, .int (iI i)), (2, .int (iI ((a 4) (i))))] [.ref 18] _ _ _ _
                      refine pm_e_sim pm_a169_313 rfl ?_
                      show pm_E _ _ _ 314 [(0, .ref 18), (1, .int (iI i)), (2, .int (iI ((a 4) (i))))] [.int (iI ((a 4) (i))), .ref 18] _ _ _ _
                      refine pm_e_sim pm_a169_314 rfl ?_
                      refine pm_e_top (y := iI 4) (by decide +kernel) ?_
                      show pm_E _ _ _ 315 [(0, .ref 18), (1, .int (iI i)), (2, .int (iI ((a 4) (i))))] [.int (iI 4), .int (iI ((a 4) (i))), .ref 18] _ _ _ _
                      refine pm_c_ne (t := 323) pm_a169_315 rfl ⟨by omega, by omega⟩ ⟨by omega, by omega⟩ (fun h_309 => ?_) (fun h_309 => ?_)
                      · skip
                        show pm_E _ _ _ 323 [(0, .ref 18), (1, .int (iI i)), (2, .int (iI ((a 4) (i))))] [.ref 18] _ _ _ _
                        refine pm_e_sim pm_a169_323 rfl ?_
                        show pm_E _ _ _ 324 [(0, .ref 18), (1, .int (iI i)), (2, .int (iI ((a 4) (i))))] [.int (iI ((a 4) (i))), .ref 18] _ _ _ _
                        refine pm_e_sim pm_a169_324 rfl ?_
                        refine pm_e_top (y := iI 5) (by decide +kernel) ?_
                        show pm_E _ _ _ 325 [(0, .ref 18), (1, .int (iI i)), (2, .int (iI ((a 4) (i))))] [.int (iI 5), .int (iI ((a 4) (i))), .ref 18] _ _ _ _
                        refine pm_c_ne (t := 333) pm_a169_325 rfl ⟨by omega, by omega⟩ ⟨by omega, by omega⟩ (fun h_310 => ?_) (fun h_310 => ?_)
                        · skip
                          show pm_E _ _ _ 333 [(0, .ref 18), (1, .int (iI i)), (2, .int (iI ((a 4) (i))))] [.ref 18] _ _ _ _
                          refine pm_e_sim pm_a169_333 rfl ?_
                          refine pm_e_top (y := iI 88) (by decide +kernel) ?_
                          show pm_E _ _ _ 335 [(0, .ref 18), (1, .int (iI i)), (2, .int (iI ((a 4) (i))))] [.int (iI 88), .ref 18] _ _ _ _
                          refine pm_i_callv (k := 18) (T2 := pm_mm172) pm_a169_335 rfl rfl rfl (mh_get (j := 0) hA rfl) ⟨Nat.le_of_ble_eq_true rfl, Nat.le_of_ble_eq_true rfl, rfl, by decide +kernel⟩ ?_
                          show pm_E none _ _ 0 [(0, .ref 18), (1, .int (iI 88))] [] _ _ _ _
                          refine M_sayT (X := (Y ++ List.replicate (a0 14 i).toNat 41)) hA hT (by first | omega | (simp only [List.length_append, List.length_cons, List.length_nil, List.length_replicate]; omega)) (fun s311_ a311_ gs311 ga311 t311 => ?_)
                          have fs311 : ∀ j, j ≠ 23 → s311_ j = s0 j := fun j hj => (gs311 j hj).trans (fS j hj)
                          have fa311 : ∀ j, j ≠ 11 → a311_ j = a0 j := fun j hj => (ga311 j hj).trans (fA j hj)
                          have y4_311 : a311_ 4 i = a0 4 i := by rw [fa311 4 (by omega)]
                          have y5_311 : a311_ 5 i = a0 5 i := by rw [fa311 5 (by omega)]
                          have y13_311 : a311_ 13 i = a0 13 i := by rw [fa311 13 (by omega)]
                          have y6_311 : s311_ 6 = s0 6 := fs311 6 (by omega)
                          show pm_E _ _ _ 338 [(0, .ref 18), (1, .int (iI i)), (2, .int (iI ((a 4) (i))))] [] _ _ _ _
                          refine pm_e_inc (y := iI (i + 1)) pm_a169_338 rfl (iI_add _ _) (by decide +kernel) rfl ?_
                          show pm_E _ _ _ 341 [(0, .ref 18), (1, .int (iI (i + 1))), (2, .int (iI ((a 4) (i))))] [] _ _ _ _
                          refine pm_e_goto pm_a169_341 rfl ?_
                          show pm_E _ _ _ 151 [(0, .ref 18), (1, .int (iI (i + 1))), (2, .int (iI ((a 4) (i))))] [] _ _ _ _
                          show pm_E _ _ _ 151 ([(0, .ref 18), (1, .int (iI (i + 1)))] ++ [(2, .int (iI ((a 4) (i))))]) [] _ _ _ _
                          refine pm_e_more [(2, .int (iI ((a 4) (i))))] (show ([0, 1, 2] : List Nat).Nodup from by decide) ?_
                          first
                          | (exfalso; omega)
                          | (skip
                             have e9 : sq3 (updI (a0 4) (s0 6) 0) (a0 5) (a0 12, a0 13, a0 14) (i + 1).toNat 0 = ((Y ++ List.replicate (a0 14 i).toNat 41) ++ [88]) := by
                               rw [show (i + 1).toNat = i.toNat + 1 by omega, sq3_snoc, show (0 : Int) + (i.toNat : Int) = i by omega, hYe]
                               rw [gp3_e (u := []) (v := []) (if_neg (by show ¬ a0 12 i ≠ 0; omega)) (if_neg (by show ¬ a0 13 i ≠ 0; omega))]
                               rw [show (updI (a0 4) (s0 6) 0) i = a0 4 i by unfold updI; rw [if_neg (by omega)], txN_l (by omega) (by omega)]
                               rw [show txL (a0 4 i) = 88 from by unfold txL; repeat' split; all_goals omega]
                               try dsimp only
                               simp only [List.append_assoc, List.cons_append, List.nil_append, List.append_nil]
                             rw [← e9] at t311
                             exact ih (i + 1) s311_ a311_ (by omega) (by omega) fs311 fa311 t311 kk (by omega))
                        · skip
                          show pm_E _ _ _ 328 [(0, .ref 18), (1, .int (iI i)), (2, .int (iI ((a 4) (i))))] [.ref 18] _ _ _ _
                          refine pm_e_sim pm_a169_328 rfl ?_
                          refine pm_e_top (y := iI 70) (by decide +kernel) ?_
                          show pm_E _ _ _ 330 [(0, .ref 18), (1, .int (iI i)), (2, .int (iI ((a 4) (i))))] [.int (iI 70), .ref 18] _ _ _ _
                          refine pm_e_goto pm_a169_330 rfl ?_
                          show pm_E _ _ _ 335 [(0, .ref 18), (1, .int (iI i)), (2, .int (iI ((a 4) (i))))] [.int (iI 70), .ref 18] _ _ _ _
                          refine pm_i_callv (k := 18) (T2 := pm_mm172) pm_a169_335 rfl rfl rfl (mh_get (j := 0) hA rfl) ⟨Nat.le_of_ble_eq_true rfl, Nat.le_of_ble_eq_true rfl, rfl, by decide +kernel⟩ ?_
                          show pm_E none _ _ 0 [(0, .ref 18), (1, .int (iI 70))] [] _ _ _ _
                          refine M_sayT (X := (Y ++ List.replicate (a0 14 i).toNat 41)) hA hT (by first | omega | (simp only [List.length_append, List.length_cons, List.length_nil, List.length_replicate]; omega)) (fun s312_ a312_ gs312 ga312 t312 => ?_)
                          have fs312 : ∀ j, j ≠ 23 → s312_ j = s0 j := fun j hj => (gs312 j hj).trans (fS j hj)
                          have fa312 : ∀ j, j ≠ 11 → a312_ j = a0 j := fun j hj => (ga312 j hj).trans (fA j hj)
                          have y4_312 : a312_ 4 i = a0 4 i := by rw [fa312 4 (by omega)]
                          have y5_312 : a312_ 5 i = a0 5 i := by rw [fa312 5 (by omega)]
                          have y13_312 : a312_ 13 i = a0 13 i := by rw [fa312 13 (by omega)]
                          have y6_312 : s312_ 6 = s0 6 := fs312 6 (by omega)
                          show pm_E _ _ _ 338 [(0, .ref 18), (1, .int (iI i)), (2, .int (iI ((a 4) (i))))] [] _ _ _ _
                          refine pm_e_inc (y := iI (i + 1)) pm_a169_338 rfl (iI_add _ _) (by decide +kernel) rfl ?_
                          show pm_E _ _ _ 341 [(0, .ref 18), (1, .int (iI (i + 1))), (2, .int (iI ((a 4) (i))))] [] _ _ _ _
                          refine pm_e_goto pm_a169_341 rfl ?_
                          show pm_E _ _ _ 151 [(0, .ref 18), (1, .int (iI (i + 1))), (2, .int (iI ((a 4) (i))))] [] _ _ _ _
                          show pm_E _ _ _ 151 ([(0, .ref 18), (1, .int (iI (i + 1)))] ++ [(2, .int (iI ((a 4) (i))))]) [] _ _ _ _
                          refine pm_e_more [(2, .int (iI ((a 4) (i))))] (show ([0, 1, 2] : List Nat).Nodup from by decide) ?_
                          first
                          | (exfalso; omega)
                          | (skip
                             have e9 : sq3 (updI (a0 4) (s0 6) 0) (a0 5) (a0 12, a0 13, a0 14) (i + 1).toNat 0 = ((Y ++ List.replicate (a0 14 i).toNat 41) ++ [70]) := by
                               rw [show (i + 1).toNat = i.toNat + 1 by omega, sq3_snoc, show (0 : Int) + (i.toNat : Int) = i by omega, hYe]
                               rw [gp3_e (u := []) (v := []) (if_neg (by show ¬ a0 12 i ≠ 0; omega)) (if_neg (by show ¬ a0 13 i ≠ 0; omega))]
                               rw [show (updI (a0 4) (s0 6) 0) i = a0 4 i by unfold updI; rw [if_neg (by omega)], txN_l (by omega) (by omega)]
                               rw [show txL (a0 4 i) = 70 from by unfold txL; repeat' split; all_goals omega]
                               try dsimp only
                               simp only [List.append_assoc, List.cons_append, List.nil_append, List.append_nil]
                             rw [← e9] at t312
                             exact ih (i + 1) s312_ a312_ (by omega) (by omega) fs312 fa312 t312 kk (by omega))
                      · skip
                        show pm_E _ _ _ 318 [(0, .ref 18), (1, .int (iI i)), (2, .int (iI ((a 4) (i))))] [.ref 18] _ _ _ _
                        refine pm_e_sim pm_a169_318 rfl ?_
                        refine pm_e_top (y := iI 73) (by decide +kernel) ?_
                        show pm_E _ _ _ 320 [(0, .ref 18), (1, .int (iI i)), (2, .int (iI ((a 4) (i))))] [.int (iI 73), .ref 18] _ _ _ _
                        refine pm_e_goto pm_a169_320 rfl ?_
                        show pm_E _ _ _ 335 [(0, .ref 18), (1, .int (iI i)), (2, .int (iI ((a 4) (i))))] [.int (iI 73), .ref 18] _ _ _ _
                        refine pm_i_callv (k := 18) (T2 := pm_mm172) pm_a169_335 rfl rfl rfl (mh_get (j := 0) hA rfl) ⟨Nat.le_of_ble_eq_true rfl, Nat.le_of_ble_eq_true rfl, rfl, by decide +kernel⟩ ?_
                        show pm_E none _ _ 0 [(0, .ref 18), (1, .int (iI 73))] [] _ _ _ _
                        refine M_sayT (X := (Y ++ List.replicate (a0 14 i).toNat 41)) hA hT (by first | omega | (simp only [List.length_append, List.length_cons, List.length_nil, List.length_replicate]; omega)) (fun s313_ a313_ gs313 ga313 t313 => ?_)
                        have fs313 : ∀ j, j ≠ 23 → s313_ j = s0 j := fun j hj => (gs313 j hj).trans (fS j hj)
                        have fa313 : ∀ j, j ≠ 11 → a313_ j = a0 j := fun j hj => (ga313 j hj).trans (fA j hj)
                        have y4_313 : a313_ 4 i = a0 4 i := by rw [fa313 4 (by omega)]
                        have y5_313 : a313_ 5 i = a0 5 i := by rw [fa313 5 (by omega)]
                        have y13_313 : a313_ 13 i = a0 13 i := by rw [fa313 13 (by omega)]
                        have y6_313 : s313_ 6 = s0 6 := fs313 6 (by omega)
                        show pm_E _ _ _ 338 [(0, .ref 18), (1, .int (iI i)), (2, .int (iI ((a 4) (i))))] [] _ _ _ _
                        refine pm_e_inc (y := iI (i + 1)) pm_a169_338 rfl (iI_add _ _) (by decide +kernel) rfl ?_
                        show pm_E _ _ _ 341 [(0, .ref 18), (1, .int (iI (i + 1))), (2, .int (iI ((a 4) (i))))] [] _ _ _ _
                        refine pm_e_goto pm_a169_341 rfl ?_
                        show pm_E _ _ _ 151 [(0, .ref 18), (1, .int (iI (i + 1))), (2, .int (iI ((a 4) (i))))] [] _ _ _ _
                        show pm_E _ _ _ 151 ([(0, .ref 18), (1, .int (iI (i + 1)))] ++ [(2, .int (iI ((a 4) (i))))]) [] _ _ _ _
                        refine pm_e_more [(2, .int (iI ((a 4) (i))))] (show ([0, 1, 2] : List Nat).Nodup from by decide) ?_
                        first
                        | (exfalso; omega)
                        | (skip
                           have e9 : sq3 (updI (a0 4) (s0 6) 0) (a0 5) (a0 12, a0 13, a0 14) (i + 1).toNat 0 = ((Y ++ List.replicate (a0 14 i).toNat 41) ++ [73]) := by
                             rw [show (i + 1).toNat = i.toNat + 1 by omega, sq3_snoc, show (0 : Int) + (i.toNat : Int) = i by omega, hYe]
                             rw [gp3_e (u := []) (v := []) (if_neg (by show ¬ a0 12 i ≠ 0; omega)) (if_neg (by show ¬ a0 13 i ≠ 0; omega))]
                             rw [show (updI (a0 4) (s0 6) 0) i = a0 4 i by unfold updI; rw [if_neg (by omega)], txN_l (by omega) (by omega)]
                             rw [show txL (a0 4 i) = 73 from by unfold txL; repeat' split; all_goals omega]
                             try dsimp only
                             simp only [List.append_assoc, List.cons_append, List.nil_append, List.append_nil]
                           rw [← e9] at t313
                           exact ih (i + 1) s313_ a313_ (by omega) (by omega) fs313 fa313 t313 kk (by omega))
                    · skip
                      show pm_E _ _ _ 308 [(0, .ref 18), (1, .int (iI i)), (2, .int (iI ((a 4) (i))))] [.ref 18] _ _ _ _
                      refine pm_e_sim pm_a169_308 rfl ?_
                      refine pm_e_top (y := iI 75) (by decide +kernel) ?_
                      show pm_E _ _ _ 310 [(0, .ref 18), (1, .int (iI i)), (2, .int (iI ((a 4) (i))))] [.int (iI 75), .ref 18] _ _ _ _
                      refine pm_e_goto pm_a169_310 rfl ?_
                      show pm_E _ _ _ 335 [(0, .ref 18), (1, .int (iI i)), (2, .int (iI ((a 4) (i))))] [.int (iI 75), .ref 18] _ _ _ _
                      refine pm_i_callv (k := 18) (T2 := pm_mm172) pm_a169_335 rfl rfl rfl (mh_get (j := 0) hA rfl) ⟨Nat.le_of_ble_eq_true rfl, Nat.le_of_ble_eq_true rfl, rfl, by decide +kernel⟩ ?_
                      show pm_E none _ _ 0 [(0, .ref 18), (1, .int (iI 75))] [] _ _ _ _
                      refine M_sayT (X := (Y ++ List.replicate (a0 14 i).toNat 41)) hA hT (by first | omega | (simp only [List.length_append, List.length_cons, List.length_nil, List.length_replicate]; omega)) (fun s314_ a314_ gs314 ga314 t314 => ?_)
                      have fs314 : ∀ j, j ≠ 23 → s314_ j = s0 j := fun j hj => (gs314 j hj).trans (fS j hj)
                      have fa314 : ∀ j, j ≠ 11 → a314_ j = a0 j := fun j hj => (ga314 j hj).trans (fA j hj)
                      have y4_314 : a314_ 4 i = a0 4 i := by rw [fa314 4 (by omega)]
                      have y5_314 : a314_ 5 i = a0 5 i := by rw [fa314 5 (by omega)]
                      have y13_314 : a314_ 13 i = a0 13 i := by rw [fa314 13 (by omega)]
                      have y6_314 : s314_ 6 = s0 6 := fs314 6 (by omega)
                      show pm_E _ _ _ 338 [(0, .ref 18), (1, .int (iI i)), (2, .int (iI ((a 4) (i))))] [] _ _ _ _
                      refine pm_e_inc (y := iI (i + 1)) pm_a169_338 rfl (iI_add _ _) (by decide +kernel) rfl ?_
                      show pm_E _ _ _ 341 [(0, .ref 18), (1, .int (iI (i + 1))), (2, .int (iI ((a 4) (i))))] [] _ _ _ _
                      refine pm_e_goto pm_a169_341 rfl ?_
                      show pm_E _ _ _ 151 [(0, .ref 18), (1, .int (iI (i + 1))), (2, .int (iI ((a 4) (i))))] [] _ _ _ _
                      show pm_E _ _ _ 151 ([(0, .ref 18), (1, .int (iI (i + 1)))] ++ [(2, .int (iI ((a 4) (i))))]) [] _ _ _ _
                      refine pm_e_more [(2, .int (iI ((a 4) (i))))] (show ([0, 1, 2] : List Nat).Nodup from by decide) ?_
                      first
                      | (exfalso; omega)
                      | (skip
                         have e9 : sq3 (updI (a0 4) (s0 6) 0) (a0 5) (a0 12, a0 13, a0 14) (i + 1).toNat 0 = ((Y ++ List.replicate (a0 14 i).toNat 41) ++ [75]) := by
                           rw [show (i + 1).toNat = i.toNat + 1 by omega, sq3_snoc, show (0 : Int) + (i.toNat : Int) = i by omega, hYe]
                           rw [gp3_e (u := []) (v := []) (if_neg (by show ¬ a0 12 i ≠ 0; omega)) (if_neg (by show ¬ a0 13 i ≠ 0; omega))]
                           rw [show (updI (a0 4) (s0 6) 0) i = a0 4 i by unfold updI; rw [if_neg (by omega)], txN_l (by omega) (by omega)]
                           rw [show txL (a0 4 i) = 75 from by unfold txL; repeat' split; all_goals omega]
                           try dsimp only
                           simp only [List.append_assoc, List.cons_append, List.nil_append, List.append_nil]
                         rw [← e9] at t314
                         exact ih (i + 1) s314_ a314_ (by omega) (by omega) fs314 fa314 t314 kk (by omega))
                  · skip
                    show pm_E _ _ _ 298 [(0, .ref 18), (1, .int (iI i)), (2, .int (iI ((a 4) (i))))] [.ref 18] _ _ _ _
                    refine pm_e_sim pm_a169_298 rfl ?_
                    refine pm_e_top (y := iI 83) (by decide +kernel) ?_
                    show pm_E _ _ _ 300 [(0, .ref 18), (1, .int (iI i)), (2, .int (iI ((a 4) (i))))] [.int (iI 83), .ref 18] _ _ _ _
                    refine pm_e_goto pm_a169_300 rfl ?_
                    show pm_E _ _ _ 335 [(0, .ref 18), (1, .int (iI i)), (2, .int (iI ((a 4) (i))))] [.int (iI 83), .ref 18] _ _ _ _
                    refine pm_i_callv (k := 18) (T2 := pm_mm172) pm_a169_335 rfl rfl rfl (mh_get (j := 0) hA rfl) ⟨Nat.le_of_ble_eq_true rfl, Nat.le_of_ble_eq_true rfl, rfl, by decide +kernel⟩ ?_
                    show pm_E none _ _ 0 [(0, .ref 18), (1, .int (iI 83))] [] _ _ _ _
                    refine M_sayT (X := (Y ++ List.replicate (a0 14 i).toNat 41)) hA hT (by first | omega | (simp only [List.length_append, List.length_cons, List.length_nil, List.length_replicate]; omega)) (fun s315_ a315_ gs315 ga315 t315 => ?_)
                    have fs315 : ∀ j, j ≠ 23 → s315_ j = s0 j := fun j hj => (gs315 j hj).trans (fS j hj)
                    have fa315 : ∀ j, j ≠ 11 → a315_ j = a0 j := fun j hj => (ga315 j hj).trans (fA j hj)
                    have y4_315 : a315_ 4 i = a0 4 i := by rw [fa315 4 (by omega)]
                    have y5_315 : a315_ 5 i = a0 5 i := by rw [fa315 5 (by omega)]
                    have y13_315 : a315_ 13 i = a0 13 i := by rw [fa315 13 (by omega)]
                    have y6_315 : s315_ 6 = s0 6 := fs315 6 (by omega)
                    show pm_E _ _ _ 338 [(0, .ref 18), (1, .int (iI i)), (2, .int (iI ((a 4) (i))))] [] _ _ _ _
                    refine pm_e_inc (y := iI (i + 1)) pm_a169_338 rfl (iI_add _ _) (by decide +kernel) rfl ?_
                    show pm_E _ _ _ 341 [(0, .ref 18), (1, .int (iI (i + 1))), (2, .int (iI ((a 4) (i))))] [] _ _ _ _
                    refine pm_e_goto pm_a169_341 rfl ?_
                    show pm_E _ _ _ 151 [(0, .ref 18), (1, .int (iI (i + 1))), (2, .int (iI ((a 4) (i))))] [] _ _ _ _
                    show pm_E _ _ _ 151 ([(0, .ref 18), (1, .int (iI (i + 1)))] ++ [(2, .int (iI ((a 4) (i))))]) [] _ _ _ _
                    refine pm_e_more [(2, .int (iI ((a 4) (i))))] (show ([0, 1, 2] : List Nat).Nodup from by decide) ?_
                    first
                    | (exfalso; omega)
                    | (skip
                       have e9 : sq3 (updI (a0 4) (s0 6) 0) (a0 5) (a0 12, a0 13, a0 14) (i + 1).toNat 0 = ((Y ++ List.replicate (a0 14 i).toNat 41) ++ [83]) := by
                         rw [show (i + 1).toNat = i.toNat + 1 by omega, sq3_snoc, show (0 : Int) + (i.toNat : Int) = i by omega, hYe]
                         rw [gp3_e (u := []) (v := []) (if_neg (by show ¬ a0 12 i ≠ 0; omega)) (if_neg (by show ¬ a0 13 i ≠ 0; omega))]
                         rw [show (updI (a0 4) (s0 6) 0) i = a0 4 i by unfold updI; rw [if_neg (by omega)], txN_l (by omega) (by omega)]
                         rw [show txL (a0 4 i) = 83 from by unfold txL; repeat' split; all_goals omega]
                         try dsimp only
                         simp only [List.append_assoc, List.cons_append, List.nil_append, List.append_nil]
                       rw [← e9] at t315
                       exact ih (i + 1) s315_ a315_ (by omega) (by omega) fs315 fa315 t315 kk (by omega))
              · skip
                show pm_E _ _ _ 268 [(0, .ref 18), (1, .int (iI i)), (2, .int (iI ((a 4) (i))))] [] _ _ _ _
                refine pm_e_sim pm_a169_268 rfl ?_
                show pm_E _ _ _ 269 [(0, .ref 18), (1, .int (iI i)), (2, .int (iI ((a 4) (i))))] [.ref 18] _ _ _ _
                refine pm_e_sim pm_a169_269 rfl ?_
                show pm_E _ _ _ 270 [(0, .ref 18), (1, .int (iI i)), (2, .int (iI ((a 4) (i))))] [.ref 18, .ref 18] _ _ _ _
                refine pm_i_get pm_a169_270 rfl (mh_get (j := 0) hA rfl) rfl ?_
                show pm_E _ _ _ 273 [(0, .ref 18), (1, .int (iI i)), (2, .int (iI ((a 4) (i))))] [.ref 23, .ref 18] _ _ _ _
                refine pm_e_sim pm_a169_273 rfl ?_
                show pm_E _ _ _ 274 [(0, .ref 18), (1, .int (iI i)), (2, .int (iI ((a 4) (i))))] [.int (iI i), .ref 23, .ref 18] _ _ _ _
                refine pm_i_ald pm_a169_274 (mh_get (j := 5) hA rfl) (by omega) (by omega) ⟨by omega, by omega⟩ ?_
                show pm_E _ _ _ 275 [(0, .ref 18), (1, .int (iI i)), (2, .int (iI ((a 4) (i))))] [.int (iI ((a 5) (i))), .ref 18] _ _ _ _
                refine pm_e_sim pm_a169_275 rfl ?_
                refine pm_e_top (y := iI 1) (by decide +kernel) ?_
                show pm_E _ _ _ 276 [(0, .ref 18), (1, .int (iI i)), (2, .int (iI ((a 4) (i))))] [.int (iI 1), .int (iI ((a 5) (i))), .ref 18] _ _ _ _
                refine pm_e_sim pm_a169_276 rfl ?_
                refine pm_e_top (y := iI ((a 5) (i) - 1)) (iI_sub _ _) ?_
                show pm_E _ _ _ 277 [(0, .ref 18), (1, .int (iI i)), (2, .int (iI ((a 4) (i))))] [.int (iI ((a 5) (i) - 1)), .ref 18] _ _ _ _
                refine pm_e_sim pm_a169_277 rfl ?_
                show pm_E _ _ _ 278 [(0, .ref 18), (1, .int (iI i)), (2, .int (iI ((a 4) (i))))] [.int (iI ((a 4) (i))), .int (iI ((a 5) (i) - 1)), .ref 18] _ _ _ _
                refine pm_e_sim pm_a169_278 rfl ?_
                refine pm_e_top (y := iI 10) (by decide +kernel) ?_
                show pm_E _ _ _ 280 [(0, .ref 18), (1, .int (iI i)), (2, .int (iI ((a 4) (i))))] [.int (iI 10), .int (iI ((a 4) (i))), .int (iI ((a 5) (i) - 1)), .ref 18] _ _ _ _
                refine pm_e_sim pm_a169_280 rfl ?_
                refine pm_e_top (y := iI ((a 4) (i) - 10)) (iI_sub _ _) ?_
                show pm_E _ _ _ 281 [(0, .ref 18), (1, .int (iI i)), (2, .int (iI ((a 4) (i))))] [.int (iI ((a 4) (i) - 10)), .int (iI ((a 5) (i) - 1)), .ref 18] _ _ _ _
                refine pm_e_sim pm_a169_281 rfl ?_
                refine pm_e_top (y := iI ((a 5) (i) - 1 - ((a 4) (i) - 10))) (iI_sub _ _) ?_
                show pm_E _ _ _ 282 [(0, .ref 18), (1, .int (iI i)), (2, .int (iI ((a 4) (i))))] [.int (iI ((a 5) (i) - 1 - ((a 4) (i) - 10))), .ref 18] _ _ _ _
                refine pm_i_callv (k := 18) (T2 := pm_mm173) pm_a169_282 rfl rfl rfl (mh_get (j := 0) hA rfl) ⟨Nat.le_of_ble_eq_true rfl, Nat.le_of_ble_eq_true rfl, rfl, by decide +kernel⟩ ?_
                show pm_E none _ _ 0 [(0, .ref 18), (1, .int (iI ((a 5) (i) - 1 - ((a 4) (i) - 10))))] [] _ _ _ _
                have nl316 := nmC_len ((a 5) (i) - 1 - ((a 4) (i) - 10))
                refine M_sayName (X := (Y ++ List.replicate (a0 14 i).toNat 41)) hA (by omega) (by omega) hT (by first | omega | (simp only [List.length_append, List.length_cons, List.length_nil, List.length_replicate]; omega)) (fun s316_ a316_ gs316 ga316 t316 => ?_)
                have fs316 : ∀ j, j ≠ 23 → s316_ j = s0 j := fun j hj => (gs316 j hj).trans (fS j hj)
                have fa316 : ∀ j, j ≠ 11 → a316_ j = a0 j := fun j hj => (ga316 j hj).trans (fA j hj)
                have y4_316 : a316_ 4 i = a0 4 i := by rw [fa316 4 (by omega)]
                have y5_316 : a316_ 5 i = a0 5 i := by rw [fa316 5 (by omega)]
                have y13_316 : a316_ 13 i = a0 13 i := by rw [fa316 13 (by omega)]
                have y6_316 : s316_ 6 = s0 6 := fs316 6 (by omega)
                show pm_E _ _ _ 285 [(0, .ref 18), (1, .int (iI i)), (2, .int (iI ((a 4) (i))))] [] _ _ _ _
                refine pm_e_goto pm_a169_285 rfl ?_
                show pm_E _ _ _ 338 [(0, .ref 18), (1, .int (iI i)), (2, .int (iI ((a 4) (i))))] [] _ _ _ _
                refine pm_e_inc (y := iI (i + 1)) pm_a169_338 rfl (iI_add _ _) (by decide +kernel) rfl ?_
                show pm_E _ _ _ 341 [(0, .ref 18), (1, .int (iI (i + 1))), (2, .int (iI ((a 4) (i))))] [] _ _ _ _
                refine pm_e_goto pm_a169_341 rfl ?_
                show pm_E _ _ _ 151 [(0, .ref 18), (1, .int (iI (i + 1))), (2, .int (iI ((a 4) (i))))] [] _ _ _ _
                show pm_E _ _ _ 151 ([(0, .ref 18), (1, .int (iI (i + 1)))] ++ [(2, .int (iI ((a 4) (i))))]) [] _ _ _ _
                refine pm_e_more [(2, .int (iI ((a 4) (i))))] (show ([0, 1, 2] : List Nat).Nodup from by decide) ?_
                first
                | (exfalso; omega)
                | (skip
                   have e9 : sq3 (updI (a0 4) (s0 6) 0) (a0 5) (a0 12, a0 13, a0 14) (i + 1).toNat 0 = ((Y ++ List.replicate (a0 14 i).toNat 41) ++ nmC ((a 5) (i) - 1 - ((a 4) (i) - 10))) := by
                     rw [show (i + 1).toNat = i.toNat + 1 by omega, sq3_snoc, show (0 : Int) + (i.toNat : Int) = i by omega, hYe]
                     rw [gp3_e (u := []) (v := []) (if_neg (by show ¬ a0 12 i ≠ 0; omega)) (if_neg (by show ¬ a0 13 i ≠ 0; omega))]
                     rw [show (updI (a0 4) (s0 6) 0) i = a0 4 i by unfold updI; rw [if_neg (by omega)], txN_v (by omega)]
                     rw [show a0 5 i - 1 - (a0 4 i - 10) = (a 5) (i) - 1 - ((a 4) (i) - 10) from by omega]
                     try dsimp only
                     simp only [List.append_assoc, List.cons_append, List.nil_append, List.append_nil]
                   rw [← e9] at t316
                   exact ih (i + 1) s316_ a316_ (by omega) (by omega) fs316 fa316 t316 kk (by omega))
            · skip
              show pm_E _ _ _ 237 [(0, .ref 18), (1, .int (iI i)), (2, .int (iI ((a 4) (i))))] [] _ _ _ _
              refine pm_e_sim pm_a169_237 rfl ?_
              show pm_E _ _ _ 238 [(0, .ref 18), (1, .int (iI i)), (2, .int (iI ((a 4) (i))))] [.ref 18] _ _ _ _
              refine pm_e_sim pm_a169_238 rfl ?_
              refine pm_e_top (y := iI 92) (by decide +kernel) ?_
              show pm_E _ _ _ 240 [(0, .ref 18), (1, .int (iI i)), (2, .int (iI ((a 4) (i))))] [.int (iI 92), .ref 18] _ _ _ _
              refine pm_i_callv (k := 18) (T2 := pm_mm172) pm_a169_240 rfl rfl rfl (mh_get (j := 0) hA rfl) ⟨Nat.le_of_ble_eq_true rfl, Nat.le_of_ble_eq_true rfl, rfl, by decide +kernel⟩ ?_
              show pm_E none _ _ 0 [(0, .ref 18), (1, .int (iI 92))] [] _ _ _ _
              refine M_sayT (X := (Y ++ List.replicate (a0 14 i).toNat 41)) hA hT (by first | omega | (simp only [List.length_append, List.length_cons, List.length_nil, List.length_replicate]; omega)) (fun s317_ a317_ gs317 ga317 t317 => ?_)
              have fs317 : ∀ j, j ≠ 23 → s317_ j = s0 j := fun j hj => (gs317 j hj).trans (fS j hj)
              have fa317 : ∀ j, j ≠ 11 → a317_ j = a0 j := fun j hj => (ga317 j hj).trans (fA j hj)
              have y4_317 : a317_ 4 i = a0 4 i := by rw [fa317 4 (by omega)]
              have y5_317 : a317_ 5 i = a0 5 i := by rw [fa317 5 (by omega)]
              have y13_317 : a317_ 13 i = a0 13 i := by rw [fa317 13 (by omega)]
              have y6_317 : s317_ 6 = s0 6 := fs317 6 (by omega)
              show pm_E _ _ _ 243 [(0, .ref 18), (1, .int (iI i)), (2, .int (iI ((a 4) (i))))] [] _ _ _ _
              refine pm_e_sim pm_a169_243 rfl ?_
              show pm_E _ _ _ 244 [(0, .ref 18), (1, .int (iI i)), (2, .int (iI ((a 4) (i))))] [.ref 18] _ _ _ _
              refine pm_e_sim pm_a169_244 rfl ?_
              show pm_E _ _ _ 245 [(0, .ref 18), (1, .int (iI i)), (2, .int (iI ((a 4) (i))))] [.ref 18, .ref 18] _ _ _ _
              refine pm_i_get pm_a169_245 rfl (mh_get (j := 0) hA rfl) rfl ?_
              show pm_E _ _ _ 248 [(0, .ref 18), (1, .int (iI i)), (2, .int (iI ((a 4) (i))))] [.ref 23, .ref 18] _ _ _ _
              refine pm_e_sim pm_a169_248 rfl ?_
              show pm_E _ _ _ 249 [(0, .ref 18), (1, .int (iI i)), (2, .int (iI ((a 4) (i))))] [.int (iI i), .ref 23, .ref 18] _ _ _ _
              refine pm_i_ald pm_a169_249 (mh_get (j := 5) hA rfl) (by omega) (by omega) ⟨by omega, by omega⟩ ?_
              show pm_E _ _ _ 250 [(0, .ref 18), (1, .int (iI i)), (2, .int (iI ((a 4) (i))))] [.int (iI ((a317_ 5) (i))), .ref 18] _ _ _ _
              refine pm_i_callv (k := 18) (T2 := pm_mm173) pm_a169_250 rfl rfl rfl (mh_get (j := 0) hA rfl) ⟨Nat.le_of_ble_eq_true rfl, Nat.le_of_ble_eq_true rfl, rfl, by decide +kernel⟩ ?_
              show pm_E none _ _ 0 [(0, .ref 18), (1, .int (iI ((a317_ 5) (i))))] [] _ _ _ _
              have nl318 := nmC_len ((a317_ 5) (i))
              refine M_sayName (X := ((Y ++ List.replicate (a0 14 i).toNat 41) ++ [92])) hA (by omega) (by omega) t317 (by first | omega | (simp only [List.length_append, List.length_cons, List.length_nil, List.length_replicate]; omega)) (fun s318_ a318_ gs318 ga318 t318 => ?_)
              have fs318 : ∀ j, j ≠ 23 → s318_ j = s0 j := fun j hj => (gs318 j hj).trans (fs317 j hj)
              have fa318 : ∀ j, j ≠ 11 → a318_ j = a0 j := fun j hj => (ga318 j hj).trans (fa317 j hj)
              have y4_318 : a318_ 4 i = a0 4 i := by rw [fa318 4 (by omega)]
              have y5_318 : a318_ 5 i = a0 5 i := by rw [fa318 5 (by omega)]
              have y13_318 : a318_ 13 i = a0 13 i := by rw [fa318 13 (by omega)]
              have y6_318 : s318_ 6 = s0 6 := fs318 6 (by omega)
              show pm_E _ _ _ 253 [(0, .ref 18), (1, .int (iI i)), (2, .int (iI ((a 4) (i))))] [] _ _ _ _
              refine pm_e_sim pm_a169_253 rfl ?_
              show pm_E _ _ _ 254 [(0, .ref 18), (1, .int (iI i)), (2, .int (iI ((a 4) (i))))] [.ref 18] _ _ _ _
              refine pm_e_sim pm_a169_254 rfl ?_
              refine pm_e_top (y := iI 46) (by decide +kernel) ?_
              show pm_E _ _ _ 256 [(0, .ref 18), (1, .int (iI i)), (2, .int (iI ((a 4) (i))))] [.int (iI 46), .ref 18] _ _ _ _
              refine pm_i_callv (k := 18) (T2 := pm_mm172) pm_a169_256 rfl rfl rfl (mh_get (j := 0) hA rfl) ⟨Nat.le_of_ble_eq_true rfl, Nat.le_of_ble_eq_true rfl, rfl, by decide +kernel⟩ ?_
              show pm_E none _ _ 0 [(0, .ref 18), (1, .int (iI 46))] [] _ _ _ _
              refine M_sayT (X := (((Y ++ List.replicate (a0 14 i).toNat 41) ++ [92]) ++ nmC ((a317_ 5) (i)))) hA t318 (by first | omega | (simp only [List.length_append, List.length_cons, List.length_nil, List.length_replicate]; omega)) (fun s319_ a319_ gs319 ga319 t319 => ?_)
              have fs319 : ∀ j, j ≠ 23 → s319_ j = s0 j := fun j hj => (gs319 j hj).trans (fs318 j hj)
              have fa319 : ∀ j, j ≠ 11 → a319_ j = a0 j := fun j hj => (ga319 j hj).trans (fa318 j hj)
              have y4_319 : a319_ 4 i = a0 4 i := by rw [fa319 4 (by omega)]
              have y5_319 : a319_ 5 i = a0 5 i := by rw [fa319 5 (by omega)]
              have y13_319 : a319_ 13 i = a0 13 i := by rw [fa319 13 (by omega)]
              have y6_319 : s319_ 6 = s0 6 := fs319 6 (by omega)
              show pm_E _ _ _ 259 [(0, .ref 18), (1, .int (iI i)), (2, .int (iI ((a 4) (i))))] [] _ _ _ _
              refine pm_e_goto pm_a169_259 rfl ?_
              show pm_E _ _ _ 338 [(0, .ref 18), (1, .int (iI i)), (2, .int (iI ((a 4) (i))))] [] _ _ _ _
              refine pm_e_inc (y := iI (i + 1)) pm_a169_338 rfl (iI_add _ _) (by decide +kernel) rfl ?_
              show pm_E _ _ _ 341 [(0, .ref 18), (1, .int (iI (i + 1))), (2, .int (iI ((a 4) (i))))] [] _ _ _ _
              refine pm_e_goto pm_a169_341 rfl ?_
              show pm_E _ _ _ 151 [(0, .ref 18), (1, .int (iI (i + 1))), (2, .int (iI ((a 4) (i))))] [] _ _ _ _
              show pm_E _ _ _ 151 ([(0, .ref 18), (1, .int (iI (i + 1)))] ++ [(2, .int (iI ((a 4) (i))))]) [] _ _ _ _
              refine pm_e_more [(2, .int (iI ((a 4) (i))))] (show ([0, 1, 2] : List Nat).Nodup from by decide) ?_
              first
              | (exfalso; omega)
              | (skip
                 have e9 : sq3 (updI (a0 4) (s0 6) 0) (a0 5) (a0 12, a0 13, a0 14) (i + 1).toNat 0 = ((((Y ++ List.replicate (a0 14 i).toNat 41) ++ [92]) ++ nmC ((a317_ 5) (i))) ++ [46]) := by
                   rw [show (i + 1).toNat = i.toNat + 1 by omega, sq3_snoc, show (0 : Int) + (i.toNat : Int) = i by omega, hYe]
                   rw [gp3_e (u := []) (v := []) (if_neg (by show ¬ a0 12 i ≠ 0; omega)) (if_neg (by show ¬ a0 13 i ≠ 0; omega))]
                   rw [show (updI (a0 4) (s0 6) 0) i = 1 by unfold updI; rw [if_neg (by omega)]; omega, txN_1, show a0 5 i = (a317_ 5) (i) from by omega]
                   try dsimp only
                   simp only [List.append_assoc, List.cons_append, List.nil_append, List.append_nil]
                 rw [← e9] at t319
                 exact ih (i + 1) s319_ a319_ (by omega) (by omega) fs319 fa319 t319 kk (by omega))
        · skip
          show pm_E _ _ _ 207 [(0, .ref 18), (1, .int (iI i)), (2, .int (iI (k')))] [] _ _ _ _
          refine pm_e_sim pm_a169_207 rfl ?_
          show pm_E _ _ _ 208 [(0, .ref 18), (1, .int (iI i)), (2, .int (iI (k')))] [.ref 18] _ _ _ _
          refine pm_e_sim pm_a169_208 rfl ?_
          refine pm_e_top (y := iI 40) (by decide +kernel) ?_
          show pm_E _ _ _ 210 [(0, .ref 18), (1, .int (iI i)), (2, .int (iI (k')))] [.int (iI 40), .ref 18] _ _ _ _
          refine pm_i_callv (k := 18) (T2 := pm_mm172) pm_a169_210 rfl rfl rfl (mh_get (j := 0) hA rfl) ⟨Nat.le_of_ble_eq_true rfl, Nat.le_of_ble_eq_true rfl, rfl, by decide +kernel⟩ ?_
          show pm_E none _ _ 0 [(0, .ref 18), (1, .int (iI 40))] [] _ _ _ _
          refine M_sayT (X := (Y ++ List.replicate (a0 14 i).toNat 41)) hA hT (by first | omega | (simp only [List.length_append, List.length_cons, List.length_nil, List.length_replicate]; omega)) (fun s320_ a320_ gs320 ga320 t320 => ?_)
          have fs320 : ∀ j, j ≠ 23 → s320_ j = s0 j := fun j hj => (gs320 j hj).trans (fS j hj)
          have fa320 : ∀ j, j ≠ 11 → a320_ j = a0 j := fun j hj => (ga320 j hj).trans (fA j hj)
          have y4_320 : a320_ 4 i = a0 4 i := by rw [fa320 4 (by omega)]
          have y5_320 : a320_ 5 i = a0 5 i := by rw [fa320 5 (by omega)]
          have y13_320 : a320_ 13 i = a0 13 i := by rw [fa320 13 (by omega)]
          have y6_320 : s320_ 6 = s0 6 := fs320 6 (by omega)
          show pm_E _ _ _ 213 [(0, .ref 18), (1, .int (iI i)), (2, .int (iI (k')))] [] _ _ _ _
          refine pm_e_sim pm_a169_213 rfl ?_
          show pm_E _ _ _ 214 [(0, .ref 18), (1, .int (iI i)), (2, .int (iI (k')))] [.int (iI i)] _ _ _ _
          refine pm_e_sim pm_a169_214 rfl ?_
          show pm_E _ _ _ 215 [(0, .ref 18), (1, .int (iI i)), (2, .int (iI (k')))] [.ref 18, .int (iI i)] _ _ _ _
          refine pm_i_get pm_a169_215 rfl (mh_get (j := 0) hA rfl) rfl ?_
          show pm_E _ _ _ 218 [(0, .ref 18), (1, .int (iI i)), (2, .int (iI (k')))] [.int (iI (s320_ 6)), .int (iI i)] _ _ _ _
          refine pm_c_ge (t := 230) pm_a169_218 rfl ⟨by omega, by omega⟩ ⟨by omega, by omega⟩ (fun h_321 => ?_) (fun h_321 => ?_)
          · skip
            show pm_E _ _ _ 230 [(0, .ref 18), (1, .int (iI i)), (2, .int (iI (k')))] [] _ _ _ _
            refine pm_e_sim pm_a169_230 rfl ?_
            refine pm_e_top (y := iI 0) (by decide +kernel) ?_
            show pm_E _ _ _ 231 [(0, .ref 18), (1, .int (iI i)), (2, .int (iI (k')))] [.int (iI 0)] _ _ _ _
            refine pm_e_sim pm_a169_231 rfl ?_
            show pm_E _ _ _ 232 [(0, .ref 18), (1, .int (iI i)), (2, .int (iI 0))] [] _ _ _ _
            refine pm_e_sim pm_a169_232 rfl ?_
            show pm_E _ _ _ 233 [(0, .ref 18), (1, .int (iI i)), (2, .int (iI 0))] [.int (iI 0)] _ _ _ _
            refine pm_e_sim pm_a169_233 rfl ?_
            refine pm_e_top (y := iI 1) (by decide +kernel) ?_
            show pm_E _ _ _ 234 [(0, .ref 18), (1, .int (iI i)), (2, .int (iI 0))] [.int (iI 1), .int (iI 0)] _ _ _ _
            refine pm_e_ict pm_a169_234 rfl (by decide +kernel) ?_
            show pm_E _ _ _ 262 [(0, .ref 18), (1, .int (iI i)), (2, .int (iI 0))] [] _ _ _ _
            refine pm_e_sim pm_a169_262 rfl ?_
            show pm_E _ _ _ 263 [(0, .ref 18), (1, .int (iI i)), (2, .int (iI 0))] [.int (iI 0)] _ _ _ _
            refine pm_e_sim pm_a169_263 rfl ?_
            refine pm_e_top (y := iI 9) (by decide +kernel) ?_
            show pm_E _ _ _ 265 [(0, .ref 18), (1, .int (iI i)), (2, .int (iI 0))] [.int (iI 9), .int (iI 0)] _ _ _ _
            refine pm_e_ict pm_a169_265 rfl (by decide +kernel) ?_
            show pm_E _ _ _ 288 [(0, .ref 18), (1, .int (iI i)), (2, .int (iI 0))] [] _ _ _ _
            refine pm_e_sim pm_a169_288 rfl ?_
            show pm_E _ _ _ 289 [(0, .ref 18), (1, .int (iI i)), (2, .int (iI 0))] [.int (iI 0)] _ _ _ _
            refine pm_e_ift pm_a169_289 rfl (by decide +kernel) ?_
            show pm_E _ _ _ 338 [(0, .ref 18), (1, .int (iI i)), (2, .int (iI 0))] [] _ _ _ _
            refine pm_e_inc (y := iI (i + 1)) pm_a169_338 rfl (iI_add _ _) (by decide +kernel) rfl ?_
            show pm_E _ _ _ 341 [(0, .ref 18), (1, .int (iI (i + 1))), (2, .int (iI 0))] [] _ _ _ _
            refine pm_e_goto pm_a169_341 rfl ?_
            show pm_E _ _ _ 151 [(0, .ref 18), (1, .int (iI (i + 1))), (2, .int (iI 0))] [] _ _ _ _
            show pm_E _ _ _ 151 ([(0, .ref 18), (1, .int (iI (i + 1)))] ++ [(2, .int (iI 0))]) [] _ _ _ _
            refine pm_e_more [(2, .int (iI 0))] (show ([0, 1, 2] : List Nat).Nodup from by decide) ?_
            first
            | (exfalso; omega)
            | (skip
               have e9 : sq3 (updI (a0 4) (s0 6) 0) (a0 5) (a0 12, a0 13, a0 14) (i + 1).toNat 0 = ((Y ++ List.replicate (a0 14 i).toNat 41) ++ [40]) := by
                 rw [show (i + 1).toNat = i.toNat + 1 by omega, sq3_snoc, show (0 : Int) + (i.toNat : Int) = i by omega, hYe]
                 rw [gp3_e (u := []) (v := [40]) (if_neg (by show ¬ a0 12 i ≠ 0; omega)) (if_pos (by show a0 13 i ≠ 0; omega))]
                 rw [show (updI (a0 4) (s0 6) 0) i = 0 by unfold updI; split <;> omega, txN_0]
                 try dsimp only
                 simp only [List.append_assoc, List.cons_append, List.nil_append, List.append_nil]
               rw [← e9] at t320
               exact ih (i + 1) s320_ a320_ (by omega) (by omega) fs320 fa320 t320 kk (by omega))
          · skip
            show pm_E _ _ _ 221 [(0, .ref 18), (1, .int (iI i)), (2, .int (iI (k')))] [] _ _ _ _
            refine pm_e_sim pm_a169_221 rfl ?_
            show pm_E _ _ _ 222 [(0, .ref 18), (1, .int (iI i)), (2, .int (iI (k')))] [.ref 18] _ _ _ _
            refine pm_i_get pm_a169_222 rfl (mh_get (j := 0) hA rfl) rfl ?_
            show pm_E _ _ _ 225 [(0, .ref 18), (1, .int (iI i)), (2, .int (iI (k')))] [.ref 22] _ _ _ _
            refine pm_e_sim pm_a169_225 rfl ?_
            show pm_E _ _ _ 226 [(0, .ref 18), (1, .int (iI i)), (2, .int (iI (k')))] [.int (iI i), .ref 22] _ _ _ _
            refine pm_i_ald pm_a169_226 (mh_get (j := 4) hA rfl) (by omega) (by omega) ⟨by omega, by omega⟩ ?_
            show pm_E _ _ _ 227 [(0, .ref 18), (1, .int (iI i)), (2, .int (iI (k')))] [.int (iI ((a320_ 4) (i)))] _ _ _ _
            refine pm_e_goto pm_a169_227 rfl ?_
            show pm_E _ _ _ 231 [(0, .ref 18), (1, .int (iI i)), (2, .int (iI (k')))] [.int (iI ((a320_ 4) (i)))] _ _ _ _
            refine pm_e_sim pm_a169_231 rfl ?_
            show pm_E _ _ _ 232 [(0, .ref 18), (1, .int (iI i)), (2, .int (iI ((a320_ 4) (i))))] [] _ _ _ _
            refine pm_e_sim pm_a169_232 rfl ?_
            show pm_E _ _ _ 233 [(0, .ref 18), (1, .int (iI i)), (2, .int (iI ((a320_ 4) (i))))] [.int (iI ((a320_ 4) (i)))] _ _ _ _
            refine pm_e_sim pm_a169_233 rfl ?_
            refine pm_e_top (y := iI 1) (by decide +kernel) ?_
            show pm_E _ _ _ 234 [(0, .ref 18), (1, .int (iI i)), (2, .int (iI ((a320_ 4) (i))))] [.int (iI 1), .int (iI ((a320_ 4) (i)))] _ _ _ _
            refine pm_c_ne (t := 262) pm_a169_234 rfl ⟨by omega, by omega⟩ ⟨by omega, by omega⟩ (fun h_322 => ?_) (fun h_322 => ?_)
            · skip
              show pm_E _ _ _ 262 [(0, .ref 18), (1, .int (iI i)), (2, .int (iI ((a320_ 4) (i))))] [] _ _ _ _
              refine pm_e_sim pm_a169_262 rfl ?_
              show pm_E _ _ _ 263 [(0, .ref 18), (1, .int (iI i)), (2, .int (iI ((a320_ 4) (i))))] [.int (iI ((a320_ 4) (i)))] _ _ _ _
              refine pm_e_sim pm_a169_263 rfl ?_
              refine pm_e_top (y := iI 9) (by decide +kernel) ?_
              show pm_E _ _ _ 265 [(0, .ref 18), (1, .int (iI i)), (2, .int (iI ((a320_ 4) (i))))] [.int (iI 9), .int (iI ((a320_ 4) (i)))] _ _ _ _
              refine pm_c_le (t := 288) pm_a169_265 rfl ⟨by omega, by omega⟩ ⟨by omega, by omega⟩ (fun h_323 => ?_) (fun h_323 => ?_)
              · skip
                show pm_E _ _ _ 288 [(0, .ref 18), (1, .int (iI i)), (2, .int (iI ((a320_ 4) (i))))] [] _ _ _ _
                refine pm_e_sim pm_a169_288 rfl ?_
                show pm_E _ _ _ 289 [(0, .ref 18), (1, .int (iI i)), (2, .int (iI ((a320_ 4) (i))))] [.int (iI ((a320_ 4) (i)))] _ _ _ _
                refine pm_i_eq (t := 338) pm_a169_289 rfl ⟨by omega, by omega⟩ (fun h_324 => ?_) (fun h_324 => ?_)
                · skip
                  show pm_E _ _ _ 338 [(0, .ref 18), (1, .int (iI i)), (2, .int (iI ((a320_ 4) (i))))] [] _ _ _ _
                  refine pm_e_inc (y := iI (i + 1)) pm_a169_338 rfl (iI_add _ _) (by decide +kernel) rfl ?_
                  show pm_E _ _ _ 341 [(0, .ref 18), (1, .int (iI (i + 1))), (2, .int (iI ((a320_ 4) (i))))] [] _ _ _ _
                  refine pm_e_goto pm_a169_341 rfl ?_
                  show pm_E _ _ _ 151 [(0, .ref 18), (1, .int (iI (i + 1))), (2, .int (iI ((a320_ 4) (i))))] [] _ _ _ _
                  show pm_E _ _ _ 151 ([(0, .ref 18), (1, .int (iI (i + 1)))] ++ [(2, .int (iI ((a320_ 4) (i))))]) [] _ _ _ _
                  refine pm_e_more [(2, .int (iI ((a320_ 4) (i))))] (show ([0, 1, 2] : List Nat).Nodup from by decide) ?_
                  first
                  | (exfalso; omega)
                  | (skip
                     have e9 : sq3 (updI (a0 4) (s0 6) 0) (a0 5) (a0 12, a0 13, a0 14) (i + 1).toNat 0 = ((Y ++ List.replicate (a0 14 i).toNat 41) ++ [40]) := by
                       rw [show (i + 1).toNat = i.toNat + 1 by omega, sq3_snoc, show (0 : Int) + (i.toNat : Int) = i by omega, hYe]
                       rw [gp3_e (u := []) (v := [40]) (if_neg (by show ¬ a0 12 i ≠ 0; omega)) (if_pos (by show a0 13 i ≠ 0; omega))]
                       rw [show (updI (a0 4) (s0 6) 0) i = 0 by unfold updI; split <;> omega, txN_0]
                       try dsimp only
                       simp only [List.append_assoc, List.cons_append, List.nil_append, List.append_nil]
                     rw [← e9] at t320
                     exact ih (i + 1) s320_ a320_ (by omega) (by omega) fs320 fa320 t320 kk (by omega))
                · skip
                  show pm_E _ _ _ 292 [(0, .ref 18), (1, .int (iI i)), (2, .int (iI ((a320_ 4) (i))))] [] _ _ _ _
                  refine pm_e_sim pm_a169_292 rfl ?_
                  show pm_E _ _ _ 293 [(0, .ref 18), (1, .int (iI i)), (2, .int (iI ((a320_ 4) (i))))] [.ref 18] _ _ _ _
                  refine pm_e_sim pm_a169_293 rfl ?_
                  show pm_E _ _ _ 294 [(0, .ref 18), (1, .int (iI i)), (2, .int (iI ((a320_ 4) (i))))] [.int (iI ((a320_ 4) (i))), .ref 18] _ _ _ _
                  refine pm_e_sim pm_a169_294 rfl ?_
                  refine pm_e_top (y := iI 2) (by decide +kernel) ?_
                  show pm_E _ _ _ 295 [(0, .ref 18), (1, .int (iI i)), (2, .int (iI ((a320_ 4) (i))))] [.int (iI 2), .int (iI ((a320_ 4) (i))), .ref 18] _ _ _ _
                  refine pm_c_ne (t := 303) pm_a169_295 rfl ⟨by omega, by omega⟩ ⟨by omega, by omega⟩ (fun h_325 => ?_) (fun h_325 => ?_)
                  · skip
                    show pm_E _ _ _ 303 [(0, .ref 18), (1, .int (iI i)), (2, .int (iI ((a320_ 4) (i))))] [.ref 18] _ _ _ _
                    refine pm_e_sim pm_a169_303 rfl ?_
                    show pm_E _ _ _ 304 [(0, .ref 18), (1, .int (iI i)), (2, .int (iI ((a320_ 4) (i))))] [.int (iI ((a320_ 4) (i))), .ref 18] _ _ _ _
                    refine pm_e_sim pm_a169_304 rfl ?_
                    refine pm_e_top (y := iI 3) (by decide +kernel) ?_
                    show pm_E _ _ _ 305 [(0, .ref 18), (1, .int (iI i)), (2, .int (iI ((a320_ 4) (i))))] [.int (iI 3), .int (iI ((a320_ 4) (i))), .ref 18] _ _ _ _
                    refine pm_c_ne (t := 313) pm_a169_305 rfl ⟨by omega, by omega⟩ ⟨by omega, by omega⟩ (fun h_326 => ?_) (fun h_326 => ?_)
                    · skip
                      show pm_E _ _ _ 313 [(0, .ref 18), (1, .int (iI i)), (2, .int (iI ((a320_ 4) (i))))] [.ref 18] _ _ _ _
                      refine pm_e_sim pm_a169_313 rfl ?_
                      show pm_E _ _ _ 314 [(0, .ref 18), (1, .int (iI i)), (2, .int (iI ((a320_ 4) (i))))] [.int (iI ((a320_ 4) (i))), .ref 18] _ _ _ _
                      refine pm_e_sim pm_a169_314 rfl ?_
                      refine pm_e_top (y := iI 4) (by decide +kernel) ?_
                      show pm_E _ _ _ 315 [(0, .ref 18), (1, .int (iI i)), (2, .int (iI ((a320_ 4) (i))))] [.int (iI 4), .int (iI ((a320_ 4) (i))), .ref 18] _ _ _ _
                      refine pm_c_ne (t := 323) pm_a169_315 rfl ⟨by omega, by omega⟩ ⟨by omega, by omega⟩ (fun h_327 => ?_) (fun h_327 => ?_)
                      · skip
                        show pm_E _ _ _ 323 [(0, .ref 18), (1, .int (iI i)), (2, .int (iI ((a320_ 4) (i))))] [.ref 18] _ _ _ _
                        refine pm_e_sim pm_a169_323 rfl ?_
                        show pm_E _ _ _ 324 [(0, .ref 18), (1, .int (iI i)), (2, .int (iI ((a320_ 4) (i))))] [.int (iI ((a320_ 4) (i))), .ref 18] _ _ _ _
                        refine pm_e_sim pm_a169_324 rfl ?_
                        refine pm_e_top (y := iI 5) (by decide +kernel) ?_
                        show pm_E _ _ _ 325 [(0, .ref 18), (1, .int (iI i)), (2, .int (iI ((a320_ 4) (i))))] [.int (iI 5), .int (iI ((a320_ 4) (i))), .ref 18] _ _ _ _
                        refine pm_c_ne (t := 333) pm_a169_325 rfl ⟨by omega, by omega⟩ ⟨by omega, by omega⟩ (fun h_328 => ?_) (fun h_328 => ?_)
                        · skip
                          show pm_E _ _ _ 333 [(0, .ref 18), (1, .int (iI i)), (2, .int (iI ((a320_ 4) (i))))] [.ref 18] _ _ _ _
                          refine pm_e_sim pm_a169_333 rfl ?_
                          refine pm_e_top (y := iI 88) (by decide +kernel) ?_
                          show pm_E _ _ _ 335 [(0, .ref 18), (1, .int (iI i)), (2, .int (iI ((a320_ 4) (i))))] [.int (iI 88), .ref 18] _ _ _ _
                          refine pm_i_callv (k := 18) (T2 := pm_mm172) pm_a169_335 rfl rfl rfl (mh_get (j := 0) hA rfl) ⟨Nat.le_of_ble_eq_true rfl, Nat.le_of_ble_eq_true rfl, rfl, by decide +kernel⟩ ?_
                          show pm_E none _ _ 0 [(0, .ref 18), (1, .int (iI 88))] [] _ _ _ _
                          refine M_sayT (X := ((Y ++ List.replicate (a0 14 i).toNat 41) ++ [40])) hA t320 (by first | omega | (simp only [List.length_append, List.length_cons, List.length_nil, List.length_replicate]; omega)) (fun s329_ a329_ gs329 ga329 t329 => ?_)
                          have fs329 : ∀ j, j ≠ 23 → s329_ j = s0 j := fun j hj => (gs329 j hj).trans (fs320 j hj)
                          have fa329 : ∀ j, j ≠ 11 → a329_ j = a0 j := fun j hj => (ga329 j hj).trans (fa320 j hj)
                          have y4_329 : a329_ 4 i = a0 4 i := by rw [fa329 4 (by omega)]
                          have y5_329 : a329_ 5 i = a0 5 i := by rw [fa329 5 (by omega)]
                          have y13_329 : a329_ 13 i = a0 13 i := by rw [fa329 13 (by omega)]
                          have y6_329 : s329_ 6 = s0 6 := fs329 6 (by omega)
                          show pm_E _ _ _ 338 [(0, .ref 18), (1, .int (iI i)), (2, .int (iI ((a320_ 4) (i))))] [] _ _ _ _
                          refine pm_e_inc (y := iI (i + 1)) pm_a169_338 rfl (iI_add _ _) (by decide +kernel) rfl ?_
                          show pm_E _ _ _ 341 [(0, .ref 18), (1, .int (iI (i + 1))), (2, .int (iI ((a320_ 4) (i))))] [] _ _ _ _
                          refine pm_e_goto pm_a169_341 rfl ?_
                          show pm_E _ _ _ 151 [(0, .ref 18), (1, .int (iI (i + 1))), (2, .int (iI ((a320_ 4) (i))))] [] _ _ _ _
                          show pm_E _ _ _ 151 ([(0, .ref 18), (1, .int (iI (i + 1)))] ++ [(2, .int (iI ((a320_ 4) (i))))]) [] _ _ _ _
                          refine pm_e_more [(2, .int (iI ((a320_ 4) (i))))] (show ([0, 1, 2] : List Nat).Nodup from by decide) ?_
                          first
                          | (exfalso; omega)
                          | (skip
                             have e9 : sq3 (updI (a0 4) (s0 6) 0) (a0 5) (a0 12, a0 13, a0 14) (i + 1).toNat 0 = (((Y ++ List.replicate (a0 14 i).toNat 41) ++ [40]) ++ [88]) := by
                               rw [show (i + 1).toNat = i.toNat + 1 by omega, sq3_snoc, show (0 : Int) + (i.toNat : Int) = i by omega, hYe]
                               rw [gp3_e (u := []) (v := [40]) (if_neg (by show ¬ a0 12 i ≠ 0; omega)) (if_pos (by show a0 13 i ≠ 0; omega))]
                               rw [show (updI (a0 4) (s0 6) 0) i = a0 4 i by unfold updI; rw [if_neg (by omega)], txN_l (by omega) (by omega)]
                               rw [show txL (a0 4 i) = 88 from by unfold txL; repeat' split; all_goals omega]
                               try dsimp only
                               simp only [List.append_assoc, List.cons_append, List.nil_append, List.append_nil]
                             rw [← e9] at t329
                             exact ih (i + 1) s329_ a329_ (by omega) (by omega) fs329 fa329 t329 kk (by omega))
                        · skip
                          show pm_E _ _ _ 328 [(0, .ref 18), (1, .int (iI i)), (2, .int (iI ((a320_ 4) (i))))] [.ref 18] _ _ _ _
                          refine pm_e_sim pm_a169_328 rfl ?_
                          refine pm_e_top (y := iI 70) (by decide +kernel) ?_
                          show pm_E _ _ _ 330 [(0, .ref 18), (1, .int (iI i)), (2, .int (iI ((a320_ 4) (i))))] [.int (iI 70), .ref 18] _ _ _ _
                          refine pm_e_goto pm_a169_330 rfl ?_
                          show pm_E _ _ _ 335 [(0, .ref 18), (1, .int (iI i)), (2, .int (iI ((a320_ 4) (i))))] [.int (iI 70), .ref 18] _ _ _ _
                          refine pm_i_callv (k := 18) (T2 := pm_mm172) pm_a169_335 rfl rfl rfl (mh_get (j := 0) hA rfl) ⟨Nat.le_of_ble_eq_true rfl, Nat.le_of_ble_eq_true rfl, rfl, by decide +kernel⟩ ?_
                          show pm_E none _ _ 0 [(0, .ref 18), (1, .int (iI 70))] [] _ _ _ _
                          refine M_sayT (X := ((Y ++ List.replicate (a0 14 i).toNat 41) ++ [40])) hA t320 (by first | omega | (simp only [List.length_append, List.length_cons, List.length_nil, List.length_replicate]; omega)) (fun s330_ a330_ gs330 ga330 t330 => ?_)
                          have fs330 : ∀ j, j ≠ 23 → s330_ j = s0 j := fun j hj => (gs330 j hj).trans (fs320 j hj)
                          have fa330 : ∀ j, j ≠ 11 → a330_ j = a0 j := fun j hj => (ga330 j hj).trans (fa320 j hj)
                          have y4_330 : a330_ 4 i = a0 4 i := by rw [fa330 4 (by omega)]
                          have y5_330 : a330_ 5 i = a0 5 i := by rw [fa330 5 (by omega)]
                          have y13_330 : a330_ 13 i = a0 13 i := by rw [fa330 13 (by omega)]
                          have y6_330 : s330_ 6 = s0 6 := fs330 6 (by omega)
                          show pm_E _ _ _ 338 [(0, .ref 18), (1, .int (iI i)), (2, .int (iI ((a320_ 4) (i))))] [] _ _ _ _
                          refine pm_e_inc (y := iI (i + 1)) pm_a169_338 rfl (iI_add _ _) (by decide +kernel) rfl ?_
                          show pm_E _ _ _ 341 [(0, .ref 18), (1, .int (iI (i + 1))), (2, .int (iI ((a320_ 4) (i))))] [] _ _ _ _
                          refine pm_e_goto pm_a169_341 rfl ?_
                          show pm_E _ _ _ 151 [(0, .ref 18), (1, .int (iI (i + 1))), (2, .int (iI ((a320_ 4) (i))))] [] _ _ _ _
                          show pm_E _ _ _ 151 ([(0, .ref 18), (1, .int (iI (i + 1)))] ++ [(2, .int (iI ((a320_ 4) (i))))]) [] _ _ _ _
                          refine pm_e_more [(2, .int (iI ((a320_ 4) (i))))] (show ([0, 1, 2] : List Nat).Nodup from by decide) ?_
                          first
                          | (exfalso; omega)
                          | (skip
                             have e9 : sq3 (updI (a0 4) (s0 6) 0) (a0 5) (a0 12, a0 13, a0 14) (i + 1).toNat 0 = (((Y ++ List.replicate (a0 14 i).toNat 41) ++ [40]) ++ [70]) := by
                               rw [show (i + 1).toNat = i.toNat + 1 by omega, sq3_snoc, show (0 : Int) + (i.toNat : Int) = i by omega, hYe]
                               rw [gp3_e (u := []) (v := [40]) (if_neg (by show ¬ a0 12 i ≠ 0; omega)) (if_pos (by show a0 13 i ≠ 0; omega))]
                               rw [show (updI (a0 4) (s0 6) 0) i = a0 4 i by unfold updI; rw [if_neg (by omega)], txN_l (by omega) (by omega)]
                               rw [show txL (a0 4 i) = 70 from by unfold txL; repeat' split; all_goals omega]
                               try dsimp only
                               simp only [List.append_assoc, List.cons_append, List.nil_append, List.append_nil]
                             rw [← e9] at t330
                             exact ih (i + 1) s330_ a330_ (by omega) (by omega) fs330 fa330 t330 kk (by omega))
                      · skip
                        show pm_E _ _ _ 318 [(0, .ref 18), (1, .int (iI i)), (2, .int (iI ((a320_ 4) (i))))] [.ref 18] _ _ _ _
                        refine pm_e_sim pm_a169_318 rfl ?_
                        refine pm_e_top (y := iI 73) (by decide +kernel) ?_
                        show pm_E _ _ _ 320 [(0, .ref 18), (1, .int (iI i)), (2, .int (iI ((a320_ 4) (i))))] [.int (iI 73), .ref 18] _ _ _ _
                        refine pm_e_goto pm_a169_320 rfl ?_
                        show pm_E _ _ _ 335 [(0, .ref 18), (1, .int (iI i)), (2, .int (iI ((a320_ 4) (i))))] [.int (iI 73), .ref 18] _ _ _ _
                        refine pm_i_callv (k := 18) (T2 := pm_mm172) pm_a169_335 rfl rfl rfl (mh_get (j := 0) hA rfl) ⟨Nat.le_of_ble_eq_true rfl, Nat.le_of_ble_eq_true rfl, rfl, by decide +kernel⟩ ?_
                        show pm_E none _ _ 0 [(0, .ref 18), (1, .int (iI 73))] [] _ _ _ _
                        refine M_sayT (X := ((Y ++ List.replicate (a0 14 i).toNat 41) ++ [40])) hA t320 (by first | omega | (simp only [List.length_append, List.length_cons, List.length_nil, List.length_replicate]; omega)) (fun s331_ a331_ gs331 ga331 t331 => ?_)
                        have fs331 : ∀ j, j ≠ 23 → s331_ j = s0 j := fun j hj => (gs331 j hj).trans (fs320 j hj)
                        have fa331 : ∀ j, j ≠ 11 → a331_ j = a0 j := fun j hj => (ga331 j hj).trans (fa320 j hj)
                        have y4_331 : a331_ 4 i = a0 4 i := by rw [fa331 4 (by omega)]
                        have y5_331 : a331_ 5 i = a0 5 i := by rw [fa331 5 (by omega)]
                        have y13_331 : a331_ 13 i = a0 13 i := by rw [fa331 13 (by omega)]
                        have y6_331 : s331_ 6 = s0 6 := fs331 6 (by omega)
                        show pm_E _ _ _ 338 [(0, .ref 18), (1, .int (iI i)), (2, .int (iI ((a320_ 4) (i))))] [] _ _ _ _
                        refine pm_e_inc (y := iI (i + 1)) pm_a169_338 rfl (iI_add _ _) (by decide +kernel) rfl ?_
                        show pm_E _ _ _ 341 [(0, .ref 18), (1, .int (iI (i + 1))), (2, .int (iI ((a320_ 4) (i))))] [] _ _ _ _
                        refine pm_e_goto pm_a169_341 rfl ?_
                        show pm_E _ _ _ 151 [(0, .ref 18), (1, .int (iI (i + 1))), (2, .int (iI ((a320_ 4) (i))))] [] _ _ _ _
                        show pm_E _ _ _ 151 ([(0, .ref 18), (1, .int (iI (i + 1)))] ++ [(2, .int (iI ((a320_ 4) (i))))]) [] _ _ _ _
                        refine pm_e_more [(2, .int (iI ((a320_ 4) (i))))] (show ([0, 1, 2] : List Nat).Nodup from by decide) ?_
                        first
                        | (exfalso; omega)
                        | (skip
                           have e9 : sq3 (updI (a0 4) (s0 6) 0) (a0 5) (a0 12, a0 13, a0 14) (i + 1).toNat 0 = (((Y ++ List.replicate (a0 14 i).toNat 41) ++ [40]) ++ [73]) := by
                             rw [show (i + 1).toNat = i.toNat + 1 by omega, sq3_snoc, show (0 : Int) + (i.toNat : Int) = i by omega, hYe]
                             rw [gp3_e (u := []) (v := [40]) (if_neg (by show ¬ a0 12 i ≠ 0; omega)) (if_pos (by show a0 13 i ≠ 0; omega))]
                             rw [show (updI (a0 4) (s0 6) 0) i = a0 4 i by unfold updI; rw [if_neg (by omega)], txN_l (by omega) (by omega)]
                             rw [show txL (a0 4 i) = 73 from by unfold txL; repeat' split; all_goals omega]
                             try dsimp only
                             simp only [List.append_assoc, List.cons_append, List.nil_append, List.append_nil]
                           rw [← e9] at t331
                           exact ih (i + 1) s331_ a331_ (by omega) (by omega) fs331 fa331 t331 kk (by omega))
                    · skip
                      show pm_E _ _ _ 308 [(0, .ref 18), (1, .int (iI i)), (2, .int (iI ((a320_ 4) (i))))] [.ref 18] _ _ _ _
                      refine pm_e_sim pm_a169_308 rfl ?_
                      refine pm_e_top (y := iI 75) (by decide +kernel) ?_
                      show pm_E _ _ _ 310 [(0, .ref 18), (1, .int (iI i)), (2, .int (iI ((a320_ 4) (i))))] [.int (iI 75), .ref 18] _ _ _ _
                      refine pm_e_goto pm_a169_310 rfl ?_
                      show pm_E _ _ _ 335 [(0, .ref 18), (1, .int (iI i)), (2, .int (iI ((a320_ 4) (i))))] [.int (iI 75), .ref 18] _ _ _ _
                      refine pm_i_callv (k := 18) (T2 := pm_mm172) pm_a169_335 rfl rfl rfl (mh_get (j := 0) hA rfl) ⟨Nat.le_of_ble_eq_true rfl, Nat.le_of_ble_eq_true rfl, rfl, by decide +kernel⟩ ?_
                      show pm_E none _ _ 0 [(0, .ref 18), (1, .int (iI 75))] [] _ _ _ _
                      refine M_sayT (X := ((Y ++ List.replicate (a0 14 i).toNat 41) ++ [40])) hA t320 (by first | omega | (simp only [List.length_append, List.length_cons, List.length_nil, List.length_replicate]; omega)) (fun s332_ a332_ gs332 ga332 t332 => ?_)
                      have fs332 : ∀ j, j ≠ 23 → s332_ j = s0 j := fun j hj => (gs332 j hj).trans (fs320 j hj)
                      have fa332 : ∀ j, j ≠ 11 → a332_ j = a0 j := fun j hj => (ga332 j hj).trans (fa320 j hj)
                      have y4_332 : a332_ 4 i = a0 4 i := by rw [fa332 4 (by omega)]
                      have y5_332 : a332_ 5 i = a0 5 i := by rw [fa332 5 (by omega)]
                      have y13_332 : a332_ 13 i = a0 13 i := by rw [fa332 13 (by omega)]
                      have y6_332 : s332_ 6 = s0 6 := fs332 6 (by omega)
                      show pm_E _ _ _ 338 [(0, .ref 18), (1, .int (iI i)), (2, .int (iI ((a320_ 4) (i))))] [] _ _ _ _
                      refine pm_e_inc (y := iI (i + 1)) pm_a169_338 rfl (iI_add _ _) (by decide +kernel) rfl ?_
                      show pm_E _ _ _ 341 [(0, .ref 18), (1, .int (iI (i + 1))), (2, .int (iI ((a320_ 4) (i))))] [] _ _ _ _
                      refine pm_e_goto pm_a169_341 rfl ?_
                      show pm_E _ _ _ 151 [(0, .ref 18), (1, .int (iI (i + 1))), (2, .int (iI ((a320_ 4) (i))))] [] _ _ _ _
                      show pm_E _ _ _ 151 ([(0, .ref 18), (1, .int (iI (i + 1)))] ++ [(2, .int (iI ((a320_ 4) (i))))]) [] _ _ _ _
                      refine pm_e_more [(2, .int (iI ((a320_ 4) (i))))] (show ([0, 1, 2] : List Nat).Nodup from by decide) ?_
                      first
                      | (exfalso; omega)
                      | (skip
                         have e9 : sq3 (updI (a0 4) (s0 6) 0) (a0 5) (a0 12, a0 13, a0 14) (i + 1).toNat 0 = (((Y ++ List.replicate (a0 14 i).toNat 41) ++ [40]) ++ [75]) := by
                           rw [show (i + 1).toNat = i.toNat + 1 by omega, sq3_snoc, show (0 : Int) + (i.toNat : Int) = i by omega, hYe]
                           rw [gp3_e (u := []) (v := [40]) (if_neg (by show ¬ a0 12 i ≠ 0; omega)) (if_pos (by show a0 13 i ≠ 0; omega))]
                           rw [show (updI (a0 4) (s0 6) 0) i = a0 4 i by unfold updI; rw [if_neg (by omega)], txN_l (by omega) (by omega)]
                           rw [show txL (a0 4 i) = 75 from by unfold txL; repeat' split; all_goals omega]
                           try dsimp only
                           simp only [List.append_assoc, List.cons_append, List.nil_append, List.append_nil]
                         rw [← e9] at t332
                         exact ih (i + 1) s332_ a332_ (by omega) (by omega) fs332 fa332 t332 kk (by omega))
                  · skip
                    show pm_E _ _ _ 298 [(0, .ref 18), (1, .int (iI i)), (2, .int (iI ((a320_ 4) (i))))] [.ref 18] _ _ _ _
                    refine pm_e_sim pm_a169_298 rfl ?_
                    refine pm_e_top (y := iI 83) (by decide +kernel) ?_
                    show pm_E _ _ _ 300 [(0, .ref 18), (1, .int (iI i)), (2, .int (iI ((a320_ 4) (i))))] [.int (iI 83), .ref 18] _ _ _ _
                    refine pm_e_goto pm_a169_300 rfl ?_
                    show pm_E _ _ _ 335 [(0, .ref 18), (1, .int (iI i)), (2, .int (iI ((a320_ 4) (i))))] [.int (iI 83), .ref 18] _ _ _ _
                    refine pm_i_callv (k := 18) (T2 := pm_mm172) pm_a169_335 rfl rfl rfl (mh_get (j := 0) hA rfl) ⟨Nat.le_of_ble_eq_true rfl, Nat.le_of_ble_eq_true rfl, rfl, by decide +kernel⟩ ?_
                    show pm_E none _ _ 0 [(0, .ref 18), (1, .int (iI 83))] [] _ _ _ _
                    refine M_sayT (X := ((Y ++ List.replicate (a0 14 i).toNat 41) ++ [40])) hA t320 (by first | omega | (simp only [List.length_append, List.length_cons, List.length_nil, List.length_replicate]; omega)) (fun s333_ a333_ gs333 ga333 t333 => ?_)
                    have fs333 : ∀ j, j ≠ 23 → s333_ j = s0 j := fun j hj => (gs333 j hj).trans (fs320 j hj)
                    have fa333 : ∀ j, j ≠ 11 → a333_ j = a0 j := fun j hj => (ga333 j hj).trans (fa320 j hj)
                    have y4_333 : a333_ 4 i = a0 4 i := by rw [fa333 4 (by omega)]
                    have y5_333 : a333_ 5 i = a0 5 i := by rw [fa333 5 (by omega)]
                    have y13_333 : a333_ 13 i = a0 13 i := by rw [fa333 13 (by omega)]
                    have y6_333 : s333_ 6 = s0 6 := fs333 6 (by omega)
                    show pm_E _ _ _ 338 [(0, .ref 18), (1, .int (iI i)), (2, .int (iI ((a320_ 4) (i))))] [] _ _ _ _
                    refine pm_e_inc (y := iI (i + 1)) pm_a169_338 rfl (iI_add _ _) (by decide +kernel) rfl ?_
                    show pm_E _ _ _ 341 [(0, .ref 18), (1, .int (iI (i + 1))), (2, .int (iI ((a320_ 4) (i))))] [] _ _ _ _
                    refine pm_e_goto pm_a169_341 rfl ?_
                    show pm_E _ _ _ 151 [(0, .ref 18), (1, .int (iI (i + 1))), (2, .int (iI ((a320_ 4) (i))))] [] _ _ _ _
                    show pm_E _ _ _ 151 ([(0, .ref 18), (1, .int (iI (i + 1)))] ++ [(2, .int (iI ((a320_ 4) (i))))]) [] _ _ _ _
                    refine pm_e_more [(2, .int (iI ((a320_ 4) (i))))] (show ([0, 1, 2] : List Nat).Nodup from by decide) ?_
                    first
                    | (exfalso; omega)
                    | (skip
                       have e9 : sq3 (updI (a0 4) (s0 6) 0) (a0 5) (a0 12, a0 13, a0 14) (i + 1).toNat 0 = (((Y ++ List.replicate (a0 14 i).toNat 41) ++ [40]) ++ [83]) := by
                         rw [show (i + 1).toNat = i.toNat + 1 by omega, sq3_snoc, show (0 : Int) + (i.toNat : Int) = i by omega, hYe]
                         rw [gp3_e (u := []) (v := [40]) (if_neg (by show ¬ a0 12 i ≠ 0; omega)) (if_pos (by show a0 13 i ≠ 0; omega))]
                         rw [show (updI (a0 4) (s0 6) 0) i = a0 4 i by unfold updI; rw [if_neg (by omega)], txN_l (by omega) (by omega)]
                         rw [show txL (a0 4 i) = 83 from by unfold txL; repeat' split; all_goals omega]
                         try dsimp only
                         simp only [List.append_assoc, List.cons_append, List.nil_append, List.append_nil]
                       rw [← e9] at t333
                       exact ih (i + 1) s333_ a333_ (by omega) (by omega) fs333 fa333 t333 kk (by omega))
              · skip
                show pm_E _ _ _ 268 [(0, .ref 18), (1, .int (iI i)), (2, .int (iI ((a320_ 4) (i))))] [] _ _ _ _
                refine pm_e_sim pm_a169_268 rfl ?_
                show pm_E _ _ _ 269 [(0, .ref 18), (1, .int (iI i)), (2, .int (iI ((a320_ 4) (i))))] [.ref 18] _ _ _ _
                refine pm_e_sim pm_a169_269 rfl ?_
                show pm_E _ _ _ 270 [(0, .ref 18), (1, .int (iI i)), (2, .int (iI ((a320_ 4) (i))))] [.ref 18, .ref 18] _ _ _ _
                refine pm_i_get pm_a169_270 rfl (mh_get (j := 0) hA rfl) rfl ?_
                show pm_E _ _ _ 273 [(0, .ref 18), (1, .int (iI i)), (2, .int (iI ((a320_ 4) (i))))] [.ref 23, .ref 18] _ _ _ _
                refine pm_e_sim pm_a169_273 rfl ?_
                show pm_E _ _ _ 274 [(0, .ref 18), (1, .int (iI i)), (2, .int (iI ((a320_ 4) (i))))] [.int (iI i), .ref 23, .ref 18] _ _ _ _
                refine pm_i_ald pm_a169_274 (mh_get (j := 5) hA rfl) (by omega) (by omega) ⟨by omega, by omega⟩ ?_
                show pm_E _ _ _ 275 [(0, .ref 18), (1, .int (iI i)), (2, .int (iI ((a320_ 4) (i))))] [.int (iI ((a320_ 5) (i))), .ref 18] _ _ _ _
                refine pm_e_sim pm_a169_275 rfl ?_
                refine pm_e_top (y := iI 1) (by decide +kernel) ?_
                show pm_E _ _ _ 276 [(0, .ref 18), (1, .int (iI i)), (2, .int (iI ((a320_ 4) (i))))] [.int (iI 1), .int (iI ((a320_ 5) (i))), .ref 18] _ _ _ _
                refine pm_e_sim pm_a169_276 rfl ?_
                refine pm_e_top (y := iI ((a320_ 5) (i) - 1)) (iI_sub _ _) ?_
                show pm_E _ _ _ 277 [(0, .ref 18), (1, .int (iI i)), (2, .int (iI ((a320_ 4) (i))))] [.int (iI ((a320_ 5) (i) - 1)), .ref 18] _ _ _ _
                refine pm_e_sim pm_a169_277 rfl ?_
                show pm_E _ _ _ 278 [(0, .ref 18), (1, .int (iI i)), (2, .int (iI ((a320_ 4) (i))))] [.int (iI ((a320_ 4) (i))), .int (iI ((a320_ 5) (i) - 1)), .ref 18] _ _ _ _
                refine pm_e_sim pm_a169_278 rfl ?_
                refine pm_e_top (y := iI 10) (by decide +kernel) ?_
                show pm_E _ _ _ 280 [(0, .ref 18), (1, .int (iI i)), (2, .int (iI ((a320_ 4) (i))))] [.int (iI 10), .int (iI ((a320_ 4) (i))), .int (iI ((a320_ 5) (i) - 1)), .ref 18] _ _ _ _
                refine pm_e_sim pm_a169_280 rfl ?_
                refine pm_e_top (y := iI ((a320_ 4) (i) - 10)) (iI_sub _ _) ?_
                show pm_E _ _ _ 281 [(0, .ref 18), (1, .int (iI i)), (2, .int (iI ((a320_ 4) (i))))] [.int (iI ((a320_ 4) (i) - 10)), .int (iI ((a320_ 5) (i) - 1)), .ref 18] _ _ _ _
                refine pm_e_sim pm_a169_281 rfl ?_
                refine pm_e_top (y := iI ((a320_ 5) (i) - 1 - ((a320_ 4) (i) - 10))) (iI_sub _ _) ?_
                show pm_E _ _ _ 282 [(0, .ref 18), (1, .int (iI i)), (2, .int (iI ((a320_ 4) (i))))] [.int (iI ((a320_ 5) (i) - 1 - ((a320_ 4) (i) - 10))), .ref 18] _ _ _ _
                refine pm_i_callv (k := 18) (T2 := pm_mm173) pm_a169_282 rfl rfl rfl (mh_get (j := 0) hA rfl) ⟨Nat.le_of_ble_eq_true rfl, Nat.le_of_ble_eq_true rfl, rfl, by decide +kernel⟩ ?_
                show pm_E none _ _ 0 [(0, .ref 18), (1, .int (iI ((a320_ 5) (i) - 1 - ((a320_ 4) (i) - 10))))] [] _ _ _ _
                have nl334 := nmC_len ((a320_ 5) (i) - 1 - ((a320_ 4) (i) - 10))
                refine M_sayName (X := ((Y ++ List.replicate (a0 14 i).toNat 41) ++ [40])) hA (by omega) (by omega) t320 (by first | omega | (simp only [List.length_append, List.length_cons, List.length_nil, List.length_replicate]; omega)) (fun s334_ a334_ gs334 ga334 t334 => ?_)
                have fs334 : ∀ j, j ≠ 23 → s334_ j = s0 j := fun j hj => (gs334 j hj).trans (fs320 j hj)
                have fa334 : ∀ j, j ≠ 11 → a334_ j = a0 j := fun j hj => (ga334 j hj).trans (fa320 j hj)
                have y4_334 : a334_ 4 i = a0 4 i := by rw [fa334 4 (by omega)]
                have y5_334 : a334_ 5 i = a0 5 i := by rw [fa334 5 (by omega)]
                have y13_334 : a334_ 13 i = a0 13 i := by rw [fa334 13 (by omega)]
                have y6_334 : s334_ 6 = s0 6 := fs334 6 (by omega)
                show pm_E _ _ _ 285 [(0, .ref 18), (1, .int (iI i)), (2, .int (iI ((a320_ 4) (i))))] [] _ _ _ _
                refine pm_e_goto pm_a169_285 rfl ?_
                show pm_E _ _ _ 338 [(0, .ref 18), (1, .int (iI i)), (2, .int (iI ((a320_ 4) (i))))] [] _ _ _ _
                refine pm_e_inc (y := iI (i + 1)) pm_a169_338 rfl (iI_add _ _) (by decide +kernel) rfl ?_
                show pm_E _ _ _ 341 [(0, .ref 18), (1, .int (iI (i + 1))), (2, .int (iI ((a320_ 4) (i))))] [] _ _ _ _
                refine pm_e_goto pm_a169_341 rfl ?_
                show pm_E _ _ _ 151 [(0, .ref 18), (1, .int (iI (i + 1))), (2, .int (iI ((a320_ 4) (i))))] [] _ _ _ _
                show pm_E _ _ _ 151 ([(0, .ref 18), (1, .int (iI (i + 1)))] ++ [(2, .int (iI ((a320_ 4) (i))))]) [] _ _ _ _
                refine pm_e_more [(2, .int (iI ((a320_ 4) (i))))] (show ([0, 1, 2] : List Nat).Nodup from by decide) ?_
                first
                | (exfalso; omega)
                | (skip
                   have e9 : sq3 (updI (a0 4) (s0 6) 0) (a0 5) (a0 12, a0 13, a0 14) (i + 1).toNat 0 = (((Y ++ List.replicate (a0 14 i).toNat 41) ++ [40]) ++ nmC ((a320_ 5) (i) - 1 - ((a320_ 4) (i) - 10))) := by
                     rw [show (i + 1).toNat = i.toNat + 1 by omega, sq3_snoc, show (0 : Int) + (i.toNat : Int) = i by omega, hYe]
                     rw [gp3_e (u := []) (v := [40]) (if_neg (by show ¬ a0 12 i ≠ 0; omega)) (if_pos (by show a0 13 i ≠ 0; omega))]
                     rw [show (updI (a0 4) (s0 6) 0) i = a0 4 i by unfold updI; rw [if_neg (by omega)], txN_v (by omega)]
                     rw [show a0 5 i - 1 - (a0 4 i - 10) = (a320_ 5) (i) - 1 - ((a320_ 4) (i) - 10) from by omega]
                     try dsimp only
                     simp only [List.append_assoc, List.cons_append, List.nil_append, List.append_nil]
                   rw [← e9] at t334
                   exact ih (i + 1) s334_ a334_ (by omega) (by omega) fs334 fa334 t334 kk (by omega))
            · skip
              show pm_E _ _ _ 237 [(0, .ref 18), (1, .int (iI i)), (2, .int (iI ((a320_ 4) (i))))] [] _ _ _ _
              refine pm_e_sim pm_a169_237 rfl ?_
              show pm_E _ _ _ 238 [(0, .ref 18), (1, .int (iI i)), (2, .int (iI ((a320_ 4) (i))))] [.ref 18] _ _ _ _
              refine pm_e_sim pm_a169_238 rfl ?_
              refine pm_e_top (y := iI 92) (by decide +kernel) ?_
              show pm_E _ _ _ 240 [(0, .ref 18), (1, .int (iI i)), (2, .int (iI ((a320_ 4) (i))))] [.int (iI 92), .ref 18] _ _ _ _
              refine pm_i_callv (k := 18) (T2 := pm_mm172) pm_a169_240 rfl rfl rfl (mh_get (j := 0) hA rfl) ⟨Nat.le_of_ble_eq_true rfl, Nat.le_of_ble_eq_true rfl, rfl, by decide +kernel⟩ ?_
              show pm_E none _ _ 0 [(0, .ref 18), (1, .int (iI 92))] [] _ _ _ _
              refine M_sayT (X := ((Y ++ List.replicate (a0 14 i).toNat 41) ++ [40])) hA t320 (by first | omega | (simp only [List.length_append, List.length_cons, List.length_nil, List.length_replicate]; omega)) (fun s335_ a335_ gs335 ga335 t335 => ?_)
              have fs335 : ∀ j, j ≠ 23 → s335_ j = s0 j := fun j hj => (gs335 j hj).trans (fs320 j hj)
              have fa335 : ∀ j, j ≠ 11 → a335_ j = a0 j := fun j hj => (ga335 j hj).trans (fa320 j hj)
              have y4_335 : a335_ 4 i = a0 4 i := by rw [fa335 4 (by omega)]
              have y5_335 : a335_ 5 i = a0 5 i := by rw [fa335 5 (by omega)]
              have y13_335 : a335_ 13 i = a0 13 i := by rw [fa335 13 (by omega)]
              have y6_335 : s335_ 6 = s0 6 := fs335 6 (by omega)
              show pm_E _ _ _ 243 [(0, .ref 18), (1, .int (iI i)), (2, .int (iI ((a320_ 4) (i))))] [] _ _ _ _
              refine pm_e_sim pm_a169_243 rfl ?_
              show pm_E _ _ _ 244 [(0, .ref 18), (1, .int (iI i)), (2, .int (iI ((a320_ 4) (i))))] [.ref 18] _ _ _ _
              refine pm_e_sim pm_a169_244 rfl ?_
              show pm_E _ _ _ 245 [(0, .ref 18), (1, .int (iI i)), (2, .int (iI ((a320_ 4) (i))))] [.ref 18, .ref 18] _ _ _ _
              refine pm_i_get pm_a169_245 rfl (mh_get (j := 0) hA rfl) rfl ?_
              show pm_E _ _ _ 248 [(0, .ref 18), (1, .int (iI i)), (2, .int (iI ((a320_ 4) (i))))] [.ref 23, .ref 18] _ _ _ _
              refine pm_e_sim pm_a169_248 rfl ?_
              show pm_E _ _ _ 249 [(0, .ref 18), (1, .int (iI i)), (2, .int (iI ((a320_ 4) (i))))] [.int (iI i), .ref 23, .ref 18] _ _ _ _
              refine pm_i_ald pm_a169_249 (mh_get (j := 5) hA rfl) (by omega) (by omega) ⟨by omega, by omega⟩ ?_
              show pm_E _ _ _ 250 [(0, .ref 18), (1, .int (iI i)), (2, .int (iI ((a320_ 4) (i))))] [.int (iI ((a335_ 5) (i))), .ref 18] _ _ _ _
              refine pm_i_callv (k := 18) (T2 := pm_mm173) pm_a169_250 rfl rfl rfl (mh_get (j := 0) hA rfl) ⟨Nat.le_of_ble_eq_true rfl, Nat.le_of_ble_eq_true rfl, rfl, by decide +kernel⟩ ?_
              show pm_E none _ _ 0 [(0, .ref 18), (1, .int (iI ((a335_ 5) (i))))] [] _ _ _ _
              have nl336 := nmC_len ((a335_ 5) (i))
              refine M_sayName (X := (((Y ++ List.replicate (a0 14 i).toNat 41) ++ [40]) ++ [92])) hA (by omega) (by omega) t335 (by first | omega | (simp only [List.length_append, List.length_cons, List.length_nil, List.length_replicate]; omega)) (fun s336_ a336_ gs336 ga336 t336 => ?_)
              have fs336 : ∀ j, j ≠ 23 → s336_ j = s0 j := fun j hj => (gs336 j hj).trans (fs335 j hj)
              have fa336 : ∀ j, j ≠ 11 → a336_ j = a0 j := fun j hj => (ga336 j hj).trans (fa335 j hj)
              have y4_336 : a336_ 4 i = a0 4 i := by rw [fa336 4 (by omega)]
              have y5_336 : a336_ 5 i = a0 5 i := by rw [fa336 5 (by omega)]
              have y13_336 : a336_ 13 i = a0 13 i := by rw [fa336 13 (by omega)]
              have y6_336 : s336_ 6 = s0 6 := fs336 6 (by omega)
              show pm_E _ _ _ 253 [(0, .ref 18), (1, .int (iI i)), (2, .int (iI ((a320_ 4) (i))))] [] _ _ _ _
              refine pm_e_sim pm_a169_253 rfl ?_
              show pm_E _ _ _ 254 [(0, .ref 18), (1, .int (iI i)), (2, .int (iI ((a320_ 4) (i))))] [.ref 18] _ _ _ _
              refine pm_e_sim pm_a169_254 rfl ?_
              refine pm_e_top (y := iI 46) (by decide +kernel) ?_
              show pm_E _ _ _ 256 [(0, .ref 18), (1, .int (iI i)), (2, .int (iI ((a320_ 4) (i))))] [.int (iI 46), .ref 18] _ _ _ _
              refine pm_i_callv (k := 18) (T2 := pm_mm172) pm_a169_256 rfl rfl rfl (mh_get (j := 0) hA rfl) ⟨Nat.le_of_ble_eq_true rfl, Nat.le_of_ble_eq_true rfl, rfl, by decide +kernel⟩ ?_
              show pm_E none _ _ 0 [(0, .ref 18), (1, .int (iI 46))] [] _ _ _ _
              refine M_sayT (X := ((((Y ++ List.replicate (a0 14 i).toNat 41) ++ [40]) ++ [92]) ++ nmC ((a335_ 5) (i)))) hA t336 (by first | omega | (simp only [List.length_append, List.length_cons, List.length_nil, List.length_replicate]; omega)) (fun s337_ a337_ gs337 ga337 t337 => ?_)
              have fs337 : ∀ j, j ≠ 23 → s337_ j = s0 j := fun j hj => (gs337 j hj).trans (fs336 j hj)
              have fa337 : ∀ j, j ≠ 11 → a337_ j = a0 j := fun j hj => (ga337 j hj).trans (fa336 j hj)
              have y4_337 : a337_ 4 i = a0 4 i := by rw [fa337 4 (by omega)]
              have y5_337 : a337_ 5 i = a0 5 i := by rw [fa337 5 (by omega)]
              have y13_337 : a337_ 13 i = a0 13 i := by rw [fa337 13 (by omega)]
              have y6_337 : s337_ 6 = s0 6 := fs337 6 (by omega)
              show pm_E _ _ _ 259 [(0, .ref 18), (1, .int (iI i)), (2, .int (iI ((a320_ 4) (i))))] [] _ _ _ _
              refine pm_e_goto pm_a169_259 rfl ?_
              show pm_E _ _ _ 338 [(0, .ref 18), (1, .int (iI i)), (2, .int (iI ((a320_ 4) (i))))] [] _ _ _ _
              refine pm_e_inc (y := iI (i + 1)) pm_a169_338 rfl (iI_add _ _) (by decide +kernel) rfl ?_
              show pm_E _ _ _ 341 [(0, .ref 18), (1, .int (iI (i + 1))), (2, .int (iI ((a320_ 4) (i))))] [] _ _ _ _
              refine pm_e_goto pm_a169_341 rfl ?_
              show pm_E _ _ _ 151 [(0, .ref 18), (1, .int (iI (i + 1))), (2, .int (iI ((a320_ 4) (i))))] [] _ _ _ _
              show pm_E _ _ _ 151 ([(0, .ref 18), (1, .int (iI (i + 1)))] ++ [(2, .int (iI ((a320_ 4) (i))))]) [] _ _ _ _
              refine pm_e_more [(2, .int (iI ((a320_ 4) (i))))] (show ([0, 1, 2] : List Nat).Nodup from by decide) ?_
              first
              | (exfalso; omega)
              | (skip
                 have e9 : sq3 (updI (a0 4) (s0 6) 0) (a0 5) (a0 12, a0 13, a0 14) (i + 1).toNat 0 = (((((Y ++ List.replicate (a0 14 i).toNat 41) ++ [40]) ++ [92]) ++ nmC ((a335_ 5) (i))) ++ [46]) := by
                   rw [show (i + 1).toNat = i.toNat + 1 by omega, sq3_snoc, show (0 : Int) + (i.toNat : Int) = i by omega, hYe]
                   rw [gp3_e (u := []) (v := [40]) (if_neg (by show ¬ a0 12 i ≠ 0; omega)) (if_pos (by show a0 13 i ≠ 0; omega))]
                   rw [show (updI (a0 4) (s0 6) 0) i = 1 by unfold updI; rw [if_neg (by omega)]; omega, txN_1, show a0 5 i = (a335_ 5) (i) from by omega]
                   try dsimp only
                   simp only [List.append_assoc, List.cons_append, List.nil_append, List.append_nil]
                 rw [← e9] at t337
                 exact ih (i + 1) s337_ a337_ (by omega) (by omega) fs337 fa337 t337 kk (by omega))
      · skip
        show pm_E _ _ _ 192 [(0, .ref 18), (1, .int (iI i)), (2, .int (iI (k')))] [] _ _ _ _
        refine pm_e_sim pm_a169_192 rfl ?_
        show pm_E _ _ _ 193 [(0, .ref 18), (1, .int (iI i)), (2, .int (iI (k')))] [.ref 18] _ _ _ _
        refine pm_e_sim pm_a169_193 rfl ?_
        refine pm_e_top (y := iI 32) (by decide +kernel) ?_
        show pm_E _ _ _ 195 [(0, .ref 18), (1, .int (iI i)), (2, .int (iI (k')))] [.int (iI 32), .ref 18] _ _ _ _
        refine pm_i_callv (k := 18) (T2 := pm_mm172) pm_a169_195 rfl rfl rfl (mh_get (j := 0) hA rfl) ⟨Nat.le_of_ble_eq_true rfl, Nat.le_of_ble_eq_true rfl, rfl, by decide +kernel⟩ ?_
        show pm_E none _ _ 0 [(0, .ref 18), (1, .int (iI 32))] [] _ _ _ _
        refine M_sayT (X := (Y ++ List.replicate (a0 14 i).toNat 41)) hA hT (by first | omega | (simp only [List.length_append, List.length_cons, List.length_nil, List.length_replicate]; omega)) (fun s338_ a338_ gs338 ga338 t338 => ?_)
        have fs338 : ∀ j, j ≠ 23 → s338_ j = s0 j := fun j hj => (gs338 j hj).trans (fS j hj)
        have fa338 : ∀ j, j ≠ 11 → a338_ j = a0 j := fun j hj => (ga338 j hj).trans (fA j hj)
        have y4_338 : a338_ 4 i = a0 4 i := by rw [fa338 4 (by omega)]
        have y5_338 : a338_ 5 i = a0 5 i := by rw [fa338 5 (by omega)]
        have y13_338 : a338_ 13 i = a0 13 i := by rw [fa338 13 (by omega)]
        have y6_338 : s338_ 6 = s0 6 := fs338 6 (by omega)
        show pm_E _ _ _ 198 [(0, .ref 18), (1, .int (iI i)), (2, .int (iI (k')))] [] _ _ _ _
        refine pm_e_sim pm_a169_198 rfl ?_
        show pm_E _ _ _ 199 [(0, .ref 18), (1, .int (iI i)), (2, .int (iI (k')))] [.ref 18] _ _ _ _
        refine pm_i_get pm_a169_199 rfl (mh_get (j := 0) hA rfl) rfl ?_
        show pm_E _ _ _ 202 [(0, .ref 18), (1, .int (iI i)), (2, .int (iI (k')))] [.ref 31] _ _ _ _
        refine pm_e_sim pm_a169_202 rfl ?_
        show pm_E _ _ _ 203 [(0, .ref 18), (1, .int (iI i)), (2, .int (iI (k')))] [.int (iI i), .ref 31] _ _ _ _
        refine pm_i_bld pm_a169_203 (mh_get (j := 13) hA rfl) (by omega) (by omega) ⟨by omega, by omega⟩ ?_
        show pm_E _ _ _ 204 [(0, .ref 18), (1, .int (iI i)), (2, .int (iI (k')))] [.int (iI ((a338_ 13) (i)))] _ _ _ _
        refine pm_i_eq (t := 213) pm_a169_204 rfl ⟨by omega, by omega⟩ (fun h_339 => ?_) (fun h_339 => ?_)
        · skip
          show pm_E _ _ _ 213 [(0, .ref 18), (1, .int (iI i)), (2, .int (iI (k')))] [] _ _ _ _
          refine pm_e_sim pm_a169_213 rfl ?_
          show pm_E _ _ _ 214 [(0, .ref 18), (1, .int (iI i)), (2, .int (iI (k')))] [.int (iI i)] _ _ _ _
          refine pm_e_sim pm_a169_214 rfl ?_
          show pm_E _ _ _ 215 [(0, .ref 18), (1, .int (iI i)), (2, .int (iI (k')))] [.ref 18, .int (iI i)] _ _ _ _
          refine pm_i_get pm_a169_215 rfl (mh_get (j := 0) hA rfl) rfl ?_
          show pm_E _ _ _ 218 [(0, .ref 18), (1, .int (iI i)), (2, .int (iI (k')))] [.int (iI (s338_ 6)), .int (iI i)] _ _ _ _
          refine pm_c_ge (t := 230) pm_a169_218 rfl ⟨by omega, by omega⟩ ⟨by omega, by omega⟩ (fun h_340 => ?_) (fun h_340 => ?_)
          · skip
            show pm_E _ _ _ 230 [(0, .ref 18), (1, .int (iI i)), (2, .int (iI (k')))] [] _ _ _ _
            refine pm_e_sim pm_a169_230 rfl ?_
            refine pm_e_top (y := iI 0) (by decide +kernel) ?_
            show pm_E _ _ _ 231 [(0, .ref 18), (1, .int (iI i)), (2, .int (iI (k')))] [.int (iI 0)] _ _ _ _
            refine pm_e_sim pm_a169_231 rfl ?_
            show pm_E _ _ _ 232 [(0, .ref 18), (1, .int (iI i)), (2, .int (iI 0))] [] _ _ _ _
            refine pm_e_sim pm_a169_232 rfl ?_
            show pm_E _ _ _ 233 [(0, .ref 18), (1, .int (iI i)), (2, .int (iI 0))] [.int (iI 0)] _ _ _ _
            refine pm_e_sim pm_a169_233 rfl ?_
            refine pm_e_top (y := iI 1) (by decide +kernel) ?_
            show pm_E _ _ _ 234 [(0, .ref 18), (1, .int (iI i)), (2, .int (iI 0))] [.int (iI 1), .int (iI 0)] _ _ _ _
            refine pm_e_ict pm_a169_234 rfl (by decide +kernel) ?_
            show pm_E _ _ _ 262 [(0, .ref 18), (1, .int (iI i)), (2, .int (iI 0))] [] _ _ _ _
            refine pm_e_sim pm_a169_262 rfl ?_
            show pm_E _ _ _ 263 [(0, .ref 18), (1, .int (iI i)), (2, .int (iI 0))] [.int (iI 0)] _ _ _ _
            refine pm_e_sim pm_a169_263 rfl ?_
            refine pm_e_top (y := iI 9) (by decide +kernel) ?_
            show pm_E _ _ _ 265 [(0, .ref 18), (1, .int (iI i)), (2, .int (iI 0))] [.int (iI 9), .int (iI 0)] _ _ _ _
            refine pm_e_ict pm_a169_265 rfl (by decide +kernel) ?_
            show pm_E _ _ _ 288 [(0, .ref 18), (1, .int (iI i)), (2, .int (iI 0))] [] _ _ _ _
            refine pm_e_sim pm_a169_288 rfl ?_
            show pm_E _ _ _ 289 [(0, .ref 18), (1, .int (iI i)), (2, .int (iI 0))] [.int (iI 0)] _ _ _ _
            refine pm_e_ift pm_a169_289 rfl (by decide +kernel) ?_
            show pm_E _ _ _ 338 [(0, .ref 18), (1, .int (iI i)), (2, .int (iI 0))] [] _ _ _ _
            refine pm_e_inc (y := iI (i + 1)) pm_a169_338 rfl (iI_add _ _) (by decide +kernel) rfl ?_
            show pm_E _ _ _ 341 [(0, .ref 18), (1, .int (iI (i + 1))), (2, .int (iI 0))] [] _ _ _ _
            refine pm_e_goto pm_a169_341 rfl ?_
            show pm_E _ _ _ 151 [(0, .ref 18), (1, .int (iI (i + 1))), (2, .int (iI 0))] [] _ _ _ _
            show pm_E _ _ _ 151 ([(0, .ref 18), (1, .int (iI (i + 1)))] ++ [(2, .int (iI 0))]) [] _ _ _ _
            refine pm_e_more [(2, .int (iI 0))] (show ([0, 1, 2] : List Nat).Nodup from by decide) ?_
            first
            | (exfalso; omega)
            | (skip
               have e9 : sq3 (updI (a0 4) (s0 6) 0) (a0 5) (a0 12, a0 13, a0 14) (i + 1).toNat 0 = ((Y ++ List.replicate (a0 14 i).toNat 41) ++ [32]) := by
                 rw [show (i + 1).toNat = i.toNat + 1 by omega, sq3_snoc, show (0 : Int) + (i.toNat : Int) = i by omega, hYe]
                 rw [gp3_e (u := [32]) (v := []) (if_pos (by show a0 12 i ≠ 0; omega)) (if_neg (by show ¬ a0 13 i ≠ 0; omega))]
                 rw [show (updI (a0 4) (s0 6) 0) i = 0 by unfold updI; split <;> omega, txN_0]
                 try dsimp only
                 simp only [List.append_assoc, List.cons_append, List.nil_append, List.append_nil]
               rw [← e9] at t338
               exact ih (i + 1) s338_ a338_ (by omega) (by omega) fs338 fa338 t338 kk (by omega))
          · skip
            show pm_E _ _ _ 221 [(0, .ref 18), (1, .int (iI i)), (2, .int (iI (k')))] [] _ _ _ _
            refine pm_e_sim pm_a169_221 rfl ?_
            show pm_E _ _ _ 222 [(0, .ref 18), (1, .int (iI i)), (2, .int (iI (k')))] [.ref 18] _ _ _ _
            refine pm_i_get pm_a169_222 rfl (mh_get (j := 0) hA rfl) rfl ?_
            show pm_E _ _ _ 225 [(0, .ref 18), (1, .int (iI i)), (2, .int (iI (k')))] [.ref 22] _ _ _ _
            refine pm_e_sim pm_a169_225 rfl ?_
            show pm_E _ _ _ 226 [(0, .ref 18), (1, .int (iI i)), (2, .int (iI (k')))] [.int (iI i), .ref 22] _ _ _ _
            refine pm_i_ald pm_a169_226 (mh_get (j := 4) hA rfl) (by omega) (by omega) ⟨by omega, by omega⟩ ?_
            show pm_E _ _ _ 227 [(0, .ref 18), (1, .int (iI i)), (2, .int (iI (k')))] [.int (iI ((a338_ 4) (i)))] _ _ _ _
            refine pm_e_goto pm_a169_227 rfl ?_
            show pm_E _ _ _ 231 [(0, .ref 18), (1, .int (iI i)), (2, .int (iI (k')))] [.int (iI ((a338_ 4) (i)))] _ _ _ _
            refine pm_e_sim pm_a169_231 rfl ?_
            show pm_E _ _ _ 232 [(0, .ref 18), (1, .int (iI i)), (2, .int (iI ((a338_ 4) (i))))] [] _ _ _ _
            refine pm_e_sim pm_a169_232 rfl ?_
            show pm_E _ _ _ 233 [(0, .ref 18), (1, .int (iI i)), (2, .int (iI ((a338_ 4) (i))))] [.int (iI ((a338_ 4) (i)))] _ _ _ _
            refine pm_e_sim pm_a169_233 rfl ?_
            refine pm_e_top (y := iI 1) (by decide +kernel) ?_
            show pm_E _ _ _ 234 [(0, .ref 18), (1, .int (iI i)), (2, .int (iI ((a338_ 4) (i))))] [.int (iI 1), .int (iI ((a338_ 4) (i)))] _ _ _ _
            refine pm_c_ne (t := 262) pm_a169_234 rfl ⟨by omega, by omega⟩ ⟨by omega, by omega⟩ (fun h_341 => ?_) (fun h_341 => ?_)
            · skip
              show pm_E _ _ _ 262 [(0, .ref 18), (1, .int (iI i)), (2, .int (iI ((a338_ 4) (i))))] [] _ _ _ _
              refine pm_e_sim pm_a169_262 rfl ?_
              show pm_E _ _ _ 263 [(0, .ref 18), (1, .int (iI i)), (2, .int (iI ((a338_ 4) (i))))] [.int (iI ((a338_ 4) (i)))] _ _ _ _
              refine pm_e_sim pm_a169_263 rfl ?_
              refine pm_e_top (y := iI 9) (by decide +kernel) ?_
              show pm_E _ _ _ 265 [(0, .ref 18), (1, .int (iI i)), (2, .int (iI ((a338_ 4) (i))))] [.int (iI 9), .int (iI ((a338_ 4) (i)))] _ _ _ _
              refine pm_c_le (t := 288) pm_a169_265 rfl ⟨by omega, by omega⟩ ⟨by omega, by omega⟩ (fun h_342 => ?_) (fun h_342 => ?_)
              · skip
                show pm_E _ _ _ 288 [(0, .ref 18), (1, .int (iI i)), (2, .int (iI ((a338_ 4) (i))))] [] _ _ _ _
                refine pm_e_sim pm_a169_288 rfl ?_
                show pm_E _ _ _ 289 [(0, .ref 18), (1, .int (iI i)), (2, .int (iI ((a338_ 4) (i))))] [.int (iI ((a338_ 4) (i)))] _ _ _ _
                refine pm_i_eq (t := 338) pm_a169_289 rfl ⟨by omega, by omega⟩ (fun h_343 => ?_) (fun h_343 => ?_)
                · skip
                  show pm_E _ _ _ 338 [(0, .ref 18), (1, .int (iI i)), (2, .int (iI ((a338_ 4) (i))))] [] _ _ _ _
                  refine pm_e_inc (y := iI (i + 1)) pm_a169_338 rfl (iI_add _ _) (by decide +kernel) rfl ?_
                  show pm_E _ _ _ 341 [(0, .ref 18), (1, .int (iI (i + 1))), (2, .int (iI ((a338_ 4) (i))))] [] _ _ _ _
                  refine pm_e_goto pm_a169_341 rfl ?_
                  show pm_E _ _ _ 151 [(0, .ref 18), (1, .int (iI (i + 1))), (2, .int (iI ((a338_ 4) (i))))] [] _ _ _ _
                  show pm_E _ _ _ 151 ([(0, .ref 18), (1, .int (iI (i + 1)))] ++ [(2, .int (iI ((a338_ 4) (i))))]) [] _ _ _ _
                  refine pm_e_more [(2, .int (iI ((a338_ 4) (i))))] (show ([0, 1, 2] : List Nat).Nodup from by decide) ?_
                  first
                  | (exfalso; omega)
                  | (skip
                     have e9 : sq3 (updI (a0 4) (s0 6) 0) (a0 5) (a0 12, a0 13, a0 14) (i + 1).toNat 0 = ((Y ++ List.replicate (a0 14 i).toNat 41) ++ [32]) := by
                       rw [show (i + 1).toNat = i.toNat + 1 by omega, sq3_snoc, show (0 : Int) + (i.toNat : Int) = i by omega, hYe]
                       rw [gp3_e (u := [32]) (v := []) (if_pos (by show a0 12 i ≠ 0; omega)) (if_neg (by show ¬ a0 13 i ≠ 0; omega))]
                       rw [show (updI (a0 4) (s0 6) 0) i = 0 by unfold updI; split <;> omega, txN_0]
                       try dsimp only
                       simp only [List.append_assoc, List.cons_append, List.nil_append, List.append_nil]
                     rw [← e9] at t338
                     exact ih (i + 1) s338_ a338_ (by omega) (by omega) fs338 fa338 t338 kk (by omega))
                · skip
                  show pm_E _ _ _ 292 [(0, .ref 18), (1, .int (iI i)), (2, .int (iI ((a338_ 4) (i))))] [] _ _ _ _
                  refine pm_e_sim pm_a169_292 rfl ?_
                  show pm_E _ _ _ 293 [(0, .ref 18), (1, .int (iI i)), (2, .int (iI ((a338_ 4) (i))))] [.ref 18] _ _ _ _
                  refine pm_e_sim pm_a169_293 rfl ?_
                  show pm_E _ _ _ 294 [(0, .ref 18), (1, .int (iI i)), (2, .int (iI ((a338_ 4) (i))))] [.int (iI ((a338_ 4) (i))), .ref 18] _ _ _ _
                  refine pm_e_sim pm_a169_294 rfl ?_
                  refine pm_e_top (y := iI 2) (by decide +kernel) ?_
                  show pm_E _ _ _ 295 [(0, .ref 18), (1, .int (iI i)), (2, .int (iI ((a338_ 4) (i))))] [.int (iI 2), .int (iI ((a338_ 4) (i))), .ref 18] _ _ _ _
                  refine pm_c_ne (t := 303) pm_a169_295 rfl ⟨by omega, by omega⟩ ⟨by omega, by omega⟩ (fun h_344 => ?_) (fun h_344 => ?_)
                  · skip
                    show pm_E _ _ _ 303 [(0, .ref 18), (1, .int (iI i)), (2, .int (iI ((a338_ 4) (i))))] [.ref 18] _ _ _ _
                    refine pm_e_sim pm_a169_303 rfl ?_
                    show pm_E _ _ _ 304 [(0, .ref 18), (1, .int (iI i)), (2, .int (iI ((a338_ 4) (i))))] [.int (iI ((a338_ 4) (i))), .ref 18] _ _ _ _
                    refine pm_e_sim pm_a169_304 rfl ?_
                    refine pm_e_top (y := iI 3) (by decide +kernel) ?_
                    show pm_E _ _ _ 305 [(0, .ref 18), (1, .int (iI i)), (2, .int (iI ((a338_ 4) (i))))] [.int (iI 3), .int (iI ((a338_ 4) (i))), .ref 18] _ _ _ _
                    refine pm_c_ne (t := 313) pm_a169_305 rfl ⟨by omega, by omega⟩ ⟨by omega, by omega⟩ (fun h_345 => ?_) (fun h_345 => ?_)
                    · skip
                      show pm_E _ _ _ 313 [(0, .ref 18), (1, .int (iI i)), (2, .int (iI ((a338_ 4) (i))))] [.ref 18] _ _ _ _
                      refine pm_e_sim pm_a169_313 rfl ?_
                      show pm_E _ _ _ 314 [(0, .ref 18), (1, .int (iI i)), (2, .int (iI ((a338_ 4) (i))))] [.int (iI ((a338_ 4) (i))), .ref 18] _ _ _ _
                      refine pm_e_sim pm_a169_314 rfl ?_
                      refine pm_e_top (y := iI 4) (by decide +kernel) ?_
                      show pm_E _ _ _ 315 [(0, .ref 18), (1, .int (iI i)), (2, .int (iI ((a338_ 4) (i))))] [.int (iI 4), .int (iI ((a338_ 4) (i))), .ref 18] _ _ _ _
                      refine pm_c_ne (t := 323) pm_a169_315 rfl ⟨by omega, by omega⟩ ⟨by omega, by omega⟩ (fun h_346 => ?_) (fun h_346 => ?_)
                      · skip
                        show pm_E _ _ _ 323 [(0, .ref 18), (1, .int (iI i)), (2, .int (iI ((a338_ 4) (i))))] [.ref 18] _ _ _ _
                        refine pm_e_sim pm_a169_323 rfl ?_
                        show pm_E _ _ _ 324 [(0, .ref 18), (1, .int (iI i)), (2, .int (iI ((a338_ 4) (i))))] [.int (iI ((a338_ 4) (i))), .ref 18] _ _ _ _
                        refine pm_e_sim pm_a169_324 rfl ?_
                        refine pm_e_top (y := iI 5) (by decide +kernel) ?_
                        show pm_E _ _ _ 325 [(0, .ref 18), (1, .int (iI i)), (2, .int (iI ((a338_ 4) (i))))] [.int (iI 5), .int (iI ((a338_ 4) (i))), .ref 18] _ _ _ _
                        refine pm_c_ne (t := 333) pm_a169_325 rfl ⟨by omega, by omega⟩ ⟨by omega, by omega⟩ (fun h_347 => ?_) (fun h_347 => ?_)
                        · skip
                          show pm_E _ _ _ 333 [(0, .ref 18), (1, .int (iI i)), (2, .int (iI ((a338_ 4) (i))))] [.ref 18] _ _ _ _
                          refine pm_e_sim pm_a169_333 rfl ?_
                          refine pm_e_top (y := iI 88) (by decide +kernel) ?_
                          show pm_E _ _ _ 335 [(0, .ref 18), (1, .int (iI i)), (2, .int (iI ((a338_ 4) (i))))] [.int (iI 88), .ref 18] _ _ _ _
                          refine pm_i_callv (k := 18) (T2 := pm_mm172) pm_a169_335 rfl rfl rfl (mh_get (j := 0) hA rfl) ⟨Nat.le_of_ble_eq_true rfl, Nat.le_of_ble_eq_true rfl, rfl, by decide +kernel⟩ ?_
                          show pm_E none _ _ 0 [(0, .ref 18), (1, .int (iI 88))] [] _ _ _ _
                          refine M_sayT (X := ((Y ++ List.replicate (a0 14 i).toNat 41) ++ [32])) hA t338 (by first | omega | (simp only [List.length_append, List.length_cons, List.length_nil, List.length_replicate]; omega)) (fun s348_ a348_ gs348 ga348 t348 => ?_)
                          have fs348 : ∀ j, j ≠ 23 → s348_ j = s0 j := fun j hj => (gs348 j hj).trans (fs338 j hj)
                          have fa348 : ∀ j, j ≠ 11 → a348_ j = a0 j := fun j hj => (ga348 j hj).trans (fa338 j hj)
                          have y4_348 : a348_ 4 i = a0 4 i := by rw [fa348 4 (by omega)]
                          have y5_348 : a348_ 5 i = a0 5 i := by rw [fa348 5 (by omega)]
                          have y13_348 : a348_ 13 i = a0 13 i := by rw [fa348 13 (by omega)]
                          have y6_348 : s348_ 6 = s0 6 := fs348 6 (by omega)
                          show pm_E _ _ _ 338 [(0, .ref 18), (1, .int (iI i)), (2, .int (iI ((a338_ 4) (i))))] [] _ _ _ _
                          refine pm_e_inc (y := iI (i + 1)) pm_a169_338 rfl (iI_add _ _) (by decide +kernel) rfl ?_
                          show pm_E _ _ _ 341 [(0, .ref 18), (1, .int (iI (i + 1))), (2, .int (iI ((a338_ 4) (i))))] [] _ _ _ _
                          refine pm_e_goto pm_a169_341 rfl ?_
                          show pm_E _ _ _ 151 [(0, .ref 18), (1, .int (iI (i + 1))), (2, .int (iI ((a338_ 4) (i))))] [] _ _ _ _
                          show pm_E _ _ _ 151 ([(0, .ref 18), (1, .int (iI (i + 1)))] ++ [(2, .int (iI ((a338_ 4) (i))))]) [] _ _ _ _
                          refine pm_e_more [(2, .int (iI ((a338_ 4) (i))))] (show ([0, 1, 2] : List Nat).Nodup from by decide) ?_
                          first
                          | (exfalso; omega)
                          | (skip
                             have e9 : sq3 (updI (a0 4) (s0 6) 0) (a0 5) (a0 12, a0 13, a0 14) (i + 1).toNat 0 = (((Y ++ List.replicate (a0 14 i).toNat 41) ++ [32]) ++ [88]) := by
                               rw [show (i + 1).toNat = i.toNat + 1 by omega, sq3_snoc, show (0 : Int) + (i.toNat : Int) = i by omega, hYe]
                               rw [gp3_e (u := [32]) (v := []) (if_pos (by show a0 12 i ≠ 0; omega)) (if_neg (by show ¬ a0 13 i ≠ 0; omega))]
                               rw [show (updI (a0 4) (s0 6) 0) i = a0 4 i by unfold updI; rw [if_neg (by omega)], txN_l (by omega) (by omega)]
                               rw [show txL (a0 4 i) = 88 from by unfold txL; repeat' split; all_goals omega]
                               try dsimp only
                               simp only [List.append_assoc, List.cons_append, List.nil_append, List.append_nil]
                             rw [← e9] at t348
                             exact ih (i + 1) s348_ a348_ (by omega) (by omega) fs348 fa348 t348 kk (by omega))
                        · skip
                          show pm_E _ _ _ 328 [(0, .ref 18), (1, .int (iI i)), (2, .int (iI ((a338_ 4) (i))))] [.ref 18] _ _ _ _
                          refine pm_e_sim pm_a169_328 rfl ?_
                          refine pm_e_top (y := iI 70) (by decide +kernel) ?_
                          show pm_E _ _ _ 330 [(0, .ref 18), (1, .int (iI i)), (2, .int (iI ((a338_ 4) (i))))] [.int (iI 70), .ref 18] _ _ _ _
                          refine pm_e_goto pm_a169_330 rfl ?_
                          show pm_E _ _ _ 335 [(0, .ref 18), (1, .int (iI i)), (2, .int (iI ((a338_ 4) (i))))] [.int (iI 70), .ref 18] _ _ _ _
                          refine pm_i_callv (k := 18) (T2 := pm_mm172) pm_a169_335 rfl rfl rfl (mh_get (j := 0) hA rfl) ⟨Nat.le_of_ble_eq_true rfl, Nat.le_of_ble_eq_true rfl, rfl, by decide +kernel⟩ ?_
                          show pm_E none _ _ 0 [(0, .ref 18), (1, .int (iI 70))] [] _ _ _ _
                          refine M_sayT (X := ((Y ++ List.replicate (a0 14 i).toNat 41) ++ [32])) hA t338 (by first | omega | (simp only [List.length_append, List.length_cons, List.length_nil, List.length_replicate]; omega)) (fun s349_ a349_ gs349 ga349 t349 => ?_)
                          have fs349 : ∀ j, j ≠ 23 → s349_ j = s0 j := fun j hj => (gs349 j hj).trans (fs338 j hj)
                          have fa349 : ∀ j, j ≠ 11 → a349_ j = a0 j := fun j hj => (ga349 j hj).trans (fa338 j hj)
                          have y4_349 : a349_ 4 i = a0 4 i := by rw [fa349 4 (by omega)]
                          have y5_349 : a349_ 5 i = a0 5 i := by rw [fa349 5 (by omega)]
                          have y13_349 : a349_ 13 i = a0 13 i := by rw [fa349 13 (by omega)]
                          have y6_349 : s349_ 6 = s0 6 := fs349 6 (by omega)
                          show pm_E _ _ _ 338 [(0, .ref 18), (1, .int (iI i)), (2, .int (iI ((a338_ 4) (i))))] [] _ _ _ _
                          refine pm_e_inc (y := iI (i + 1)) pm_a169_338 rfl (iI_add _ _) (by decide +kernel) rfl ?_
                          show pm_E _ _ _ 341 [(0, .ref 18), (1, .int (iI (i + 1))), (2, .int (iI ((a338_ 4) (i))))] [] _ _ _ _
                          refine pm_e_goto pm_a169_341 rfl ?_
                          show pm_E _ _ _ 151 [(0, .ref 18), (1, .int (iI (i + 1))), (2, .int (iI ((a338_ 4) (i))))] [] _ _ _ _
                          show pm_E _ _ _ 151 ([(0, .ref 18), (1, .int (iI (i + 1)))] ++ [(2, .int (iI ((a338_ 4) (i))))]) [] _ _ _ _
                          refine pm_e_more [(2, .int (iI ((a338_ 4) (i))))] (show ([0, 1, 2] : List Nat).Nodup from by decide) ?_
                          first
                          | (exfalso; omega)
                          | (skip
                             have e9 : sq3 (updI (a0 4) (s0 6) 0) (a0 5) (a0 12, a0 13, a0 14) (i + 1).toNat 0 = (((Y ++ List.replicate (a0 14 i).toNat 41) ++ [32]) ++ [70]) := by
                               rw [show (i + 1).toNat = i.toNat + 1 by omega, sq3_snoc, show (0 : Int) + (i.toNat : Int) = i by omega, hYe]
                               rw [gp3_e (u := [32]) (v := []) (if_pos (by show a0 12 i ≠ 0; omega)) (if_neg (by show ¬ a0 13 i ≠ 0; omega))]
                               rw [show (updI (a0 4) (s0 6) 0) i = a0 4 i by unfold updI; rw [if_neg (by omega)], txN_l (by omega) (by omega)]
                               rw [show txL (a0 4 i) = 70 from by unfold txL; repeat' split; all_goals omega]
                               try dsimp only
                               simp only [List.append_assoc, List.cons_append, List.nil_append, List.append_nil]
                             rw [← e9] at t349
                             exact ih (i + 1) s349_ a349_ (by omega) (by omega) fs349 fa349 t349 kk (by omega))
                      · skip
                        show pm_E _ _ _ 318 [(0, .ref 18), (1, .int (iI i)), (2, .int (iI ((a338_ 4) (i))))] [.ref 18] _ _ _ _
                        refine pm_e_sim pm_a169_318 rfl ?_
                        refine pm_e_top (y := iI 73) (by decide +kernel) ?_
                        show pm_E _ _ _ 320 [(0, .ref 18), (1, .int (iI i)), (2, .int (iI ((a338_ 4) (i))))] [.int (iI 73), .ref 18] _ _ _ _
                        refine pm_e_goto pm_a169_320 rfl ?_
                        show pm_E _ _ _ 335 [(0, .ref 18), (1, .int (iI i)), (2, .int (iI ((a338_ 4) (i))))] [.int (iI 73), .ref 18] _ _ _ _
                        refine pm_i_callv (k := 18) (T2 := pm_mm172) pm_a169_335 rfl rfl rfl (mh_get (j := 0) hA rfl) ⟨Nat.le_of_ble_eq_true rfl, Nat.le_of_ble_eq_true rfl, rfl, by decide +kernel⟩ ?_
                        show pm_E none _ _ 0 [(0, .ref 18), (1, .int (iI 73))] [] _ _ _ _
                        refine M_sayT (X := ((Y ++ List.replicate (a0 14 i).toNat 41) ++ [32])) hA t338 (by first | omega | (simp only [List.length_append, List.length_cons, List.length_nil, List.length_replicate]; omega)) (fun s350_ a350_ gs350 ga350 t350 => ?_)
                        have fs350 : ∀ j, j ≠ 23 → s350_ j = s0 j := fun j hj => (gs350 j hj).trans (fs338 j hj)
                        have fa350 : ∀ j, j ≠ 11 → a350_ j = a0 j := fun j hj => (ga350 j hj).trans (fa338 j hj)
                        have y4_350 : a350_ 4 i = a0 4 i := by rw [fa350 4 (by omega)]
                        have y5_350 : a350_ 5 i = a0 5 i := by rw [fa350 5 (by omega)]
                        have y13_350 : a350_ 13 i = a0 13 i := by rw [fa350 13 (by omega)]
                        have y6_350 : s350_ 6 = s0 6 := fs350 6 (by omega)
                        show pm_E _ _ _ 338 [(0, .ref 18), (1, .int (iI i)), (2, .int (iI ((a338_ 4) (i))))] [] _ _ _ _
                        refine pm_e_inc (y := iI (i + 1)) pm_a169_338 rfl (iI_add _ _) (by decide +kernel) rfl ?_
                        show pm_E _ _ _ 341 [(0, .ref 18), (1, .int (iI (i + 1))), (2, .int (iI ((a338_ 4) (i))))] [] _ _ _ _
                        refine pm_e_goto pm_a169_341 rfl ?_
                        show pm_E _ _ _ 151 [(0, .ref 18), (1, .int (iI (i + 1))), (2, .int (iI ((a338_ 4) (i))))] [] _ _ _ _
                        show pm_E _ _ _ 151 ([(0, .ref 18), (1, .int (iI (i + 1)))] ++ [(2, .int (iI ((a338_ 4) (i))))]) [] _ _ _ _
                        refine pm_e_more [(2, .int (iI ((a338_ 4) (i))))] (show ([0, 1, 2] : List Nat).Nodup from by decide) ?_
                        first
                        | (exfalso; omega)
                        | (skip
                           have e9 : sq3 (updI (a0 4) (s0 6) 0) (a0 5) (a0 12, a0 13, a0 14) (i + 1).toNat 0 = (((Y ++ List.replicate (a0 14 i).toNat 41) ++ [32]) ++ [73]) := by
                             rw [show (i + 1).toNat = i.toNat + 1 by omega, sq3_snoc, show (0 : Int) + (i.toNat : Int) = i by omega, hYe]
                             rw [gp3_e (u := [32]) (v := []) (if_pos (by show a0 12 i ≠ 0; omega)) (if_neg (by show ¬ a0 13 i ≠ 0; omega))]
                             rw [show (updI (a0 4) (s0 6) 0) i = a0 4 i by unfold updI; rw [if_neg (by omega)], txN_l (by omega) (by omega)]
                             rw [show txL (a0 4 i) = 73 from by unfold txL; repeat' split; all_goals omega]
                             try dsimp only
                             simp only [List.append_assoc, List.cons_append, List.nil_append, List.append_nil]
                           rw [← e9] at t350
                           exact ih (i + 1) s350_ a350_ (by omega) (by omega) fs350 fa350 t350 kk (by omega))
                    · skip
                      show pm_E _ _ _ 308 [(0, .ref 18), (1, .int (iI i)), (2, .int (iI ((a338_ 4) (i))))] [.ref 18] _ _ _ _
                      refine pm_e_sim pm_a169_308 rfl ?_
                      refine pm_e_top (y := iI 75) (by decide +kernel) ?_
                      show pm_E _ _ _ 310 [(0, .ref 18), (1, .int (iI i)), (2, .int (iI ((a338_ 4) (i))))] [.int (iI 75), .ref 18] _ _ _ _
                      refine pm_e_goto pm_a169_310 rfl ?_
                      show pm_E _ _ _ 335 [(0, .ref 18), (1, .int (iI i)), (2, .int (iI ((a338_ 4) (i))))] [.int (iI 75), .ref 18] _ _ _ _
                      refine pm_i_callv (k := 18) (T2 := pm_mm172) pm_a169_335 rfl rfl rfl (mh_get (j := 0) hA rfl) ⟨Nat.le_of_ble_eq_true rfl, Nat.le_of_ble_eq_true rfl, rfl, by decide +kernel⟩ ?_
                      show pm_E none _ _ 0 [(0, .ref 18), (1, .int (iI 75))] [] _ _ _ _
                      refine M_sayT (X := ((Y ++ List.replicate (a0 14 i).toNat 41) ++ [32])) hA t338 (by first | omega | (simp only [List.length_append, List.length_cons, List.length_nil, List.length_replicate]; omega)) (fun s351_ a351_ gs351 ga351 t351 => ?_)
                      have fs351 : ∀ j, j ≠ 23 → s351_ j = s0 j := fun j hj => (gs351 j hj).trans (fs338 j hj)
                      have fa351 : ∀ j, j ≠ 11 → a351_ j = a0 j := fun j hj => (ga351 j hj).trans (fa338 j hj)
                      have y4_351 : a351_ 4 i = a0 4 i := by rw [fa351 4 (by omega)]
                      have y5_351 : a351_ 5 i = a0 5 i := by rw [fa351 5 (by omega)]
                      have y13_351 : a351_ 13 i = a0 13 i := by rw [fa351 13 (by omega)]
                      have y6_351 : s351_ 6 = s0 6 := fs351 6 (by omega)
                      show pm_E _ _ _ 338 [(0, .ref 18), (1, .int (iI i)), (2, .int (iI ((a338_ 4) (i))))] [] _ _ _ _
                      refine pm_e_inc (y := iI (i + 1)) pm_a169_338 rfl (iI_add _ _) (by decide +kernel) rfl ?_
                      show pm_E _ _ _ 341 [(0, .ref 18), (1, .int (iI (i + 1))), (2, .int (iI ((a338_ 4) (i))))] [] _ _ _ _
                      refine pm_e_goto pm_a169_341 rfl ?_
                      show pm_E _ _ _ 151 [(0, .ref 18), (1, .int (iI (i + 1))), (2, .int (iI ((a338_ 4) (i))))] [] _ _ _ _
                      show pm_E _ _ _ 151 ([(0, .ref 18), (1, .int (iI (i + 1)))] ++ [(2, .int (iI ((a338_ 4) (i))))]) [] _ _ _ _
                      refine pm_e_more [(2, .int (iI ((a338_ 4) (i))))] (show ([0, 1, 2] : List Nat).Nodup from by decide) ?_
                      first
                      | (exfalso; omega)
                      | (skip
                         have e9 : sq3 (updI (a0 4) (s0 6) 0) (a0 5) (a0 12, a0 13, a0 14) (i + 1).toNat 0 = (((Y ++ List.replicate (a0 14 i).toNat 41) ++ [32]) ++ [75]) := by
                           rw [show (i + 1).toNat = i.toNat + 1 by omega, sq3_snoc, show (0 : Int) + (i.toNat : Int) = i by omega, hYe]
                           rw [gp3_e (u := [32]) (v := []) (if_pos (by show a0 12 i ≠ 0; omega)) (if_neg (by show ¬ a0 13 i ≠ 0; omega))]
                           rw [show (updI (a0 4) (s0 6) 0) i = a0 4 i by unfold updI; rw [if_neg (by omega)], txN_l (by omega) (by omega)]
                           rw [show txL (a0 4 i) = 75 from by unfold txL; repeat' split; all_goals omega]
                           try dsimp only
                           simp only [List.append_assoc, List.cons_append, List.nil_append, List.append_nil]
                         rw [← e9] at t351
                         exact ih (i + 1) s351_ a351_ (by omega) (by omega) fs351 fa351 t351 kk (by omega))
                  · skip
                    show pm_E _ _ _ 298 [(0, .ref 18), (1, .int (iI i)), (2, .int (iI ((a338_ 4) (i))))] [.ref 18] _ _ _ _
                    refine pm_e_sim pm_a169_298 rfl ?_
                    refine pm_e_top (y := iI 83) (by decide +kernel) ?_
                    show pm_E _ _ _ 300 [(0, .ref 18), (1, .int (iI i)), (2, .int (iI ((a338_ 4) (i))))] [.int (iI 83), .ref 18] _ _ _ _
                    refine pm_e_goto pm_a169_300 rfl ?_
                    show pm_E _ _ _ 335 [(0, .ref 18), (1, .int (iI i)), (2, .int (iI ((a338_ 4) (i))))] [.int (iI 83), .ref 18] _ _ _ _
                    refine pm_i_callv (k := 18) (T2 := pm_mm172) pm_a169_335 rfl rfl rfl (mh_get (j := 0) hA rfl) ⟨Nat.le_of_ble_eq_true rfl, Nat.le_of_ble_eq_true rfl, rfl, by decide +kernel⟩ ?_
                    show pm_E none _ _ 0 [(0, .ref 18), (1, .int (iI 83))] [] _ _ _ _
                    refine M_sayT (X := ((Y ++ List.replicate (a0 14 i).toNat 41) ++ [32])) hA t338 (by first | omega | (simp only [List.length_append, List.length_cons, List.length_nil, List.length_replicate]; omega)) (fun s352_ a352_ gs352 ga352 t352 => ?_)
                    have fs352 : ∀ j, j ≠ 23 → s352_ j = s0 j := fun j hj => (gs352 j hj).trans (fs338 j hj)
                    have fa352 : ∀ j, j ≠ 11 → a352_ j = a0 j := fun j hj => (ga352 j hj).trans (fa338 j hj)
                    have y4_352 : a352_ 4 i = a0 4 i := by rw [fa352 4 (by omega)]
                    have y5_352 : a352_ 5 i = a0 5 i := by rw [fa352 5 (by omega)]
                    have y13_352 : a352_ 13 i = a0 13 i := by rw [fa352 13 (by omega)]
                    have y6_352 : s352_ 6 = s0 6 := fs352 6 (by omega)
                    show pm_E _ _ _ 338 [(0, .ref 18), (1, .int (iI i)), (2, .int (iI ((a338_ 4) (i))))] [] _ _ _ _
                    refine pm_e_inc (y := iI (i + 1)) pm_a169_338 rfl (iI_add _ _) (by decide +kernel) rfl ?_
                    show pm_E _ _ _ 341 [(0, .ref 18), (1, .int (iI (i + 1))), (2, .int (iI ((a338_ 4) (i))))] [] _ _ _ _
                    refine pm_e_goto pm_a169_341 rfl ?_
                    show pm_E _ _ _ 151 [(0, .ref 18), (1, .int (iI (i + 1))), (2, .int (iI ((a338_ 4) (i))))] [] _ _ _ _
                    show pm_E _ _ _ 151 ([(0, .ref 18), (1, .int (iI (i + 1)))] ++ [(2, .int (iI ((a338_ 4) (i))))]) [] _ _ _ _
                    refine pm_e_more [(2, .int (iI ((a338_ 4) (i))))] (show ([0, 1, 2] : List Nat).Nodup from by decide) ?_
                    first
                    | (exfalso; omega)
                    | (skip
                       have e9 : sq3 (updI (a0 4) (s0 6) 0) (a0 5) (a0 12, a0 13, a0 14) (i + 1).toNat 0 = (((Y ++ List.replicate (a0 14 i).toNat 41) ++ [32]) ++ [83]) := by
                         rw [show (i + 1).toNat = i.toNat + 1 by omega, sq3_snoc, show (0 : Int) + (i.toNat : Int) = i by omega, hYe]
                         rw [gp3_e (u := [32]) (v := []) (if_pos (by show a0 12 i ≠ 0; omega)) (if_neg (by show ¬ a0 13 i ≠ 0; omega))]
                         rw [show (updI (a0 4) (s0 6) 0) i = a0 4 i by unfold updI; rw [if_neg (by omega)], txN_l (by omega) (by omega)]
                         rw [show txL (a0 4 i) = 83 from by unfold txL; repeat' split; all_goals omega]
                         try dsimp only
                         simp only [List.append_assoc, List.cons_append, List.nil_append, List.append_nil]
                       rw [← e9] at t352
                       exact ih (i + 1) s352_ a352_ (by omega) (by omega) fs352 fa352 t352 kk (by omega))
              · skip
                show pm_E _ _ _ 268 [(0, .ref 18), (1, .int (iI i)), (2, .int (iI ((a338_ 4) (i))))] [] _ _ _ _
                refine pm_e_sim pm_a169_268 rfl ?_
                show pm_E _ _ _ 269 [(0, .ref 18), (1, .int (iI i)), (2, .int (iI ((a338_ 4) (i))))] [.ref 18] _ _ _ _
                refine pm_e_sim pm_a169_269 rfl ?_
                show pm_E _ _ _ 270 [(0, .ref 18), (1, .int (iI i)), (2, .int (iI ((a338_ 4) (i))))] [.ref 18, .ref 18] _ _ _ _
                refine pm_i_get pm_a169_270 rfl (mh_get (j := 0) hA rfl) rfl ?_
                show pm_E _ _ _ 273 [(0, .ref 18), (1, .int (iI i)), (2, .int (iI ((a338_ 4) (i))))] [.ref 23, .ref 18] _ _ _ _
                refine pm_e_sim pm_a169_273 rfl ?_
                show pm_E _ _ _ 274 [(0, .ref 18), (1, .int (iI i)), (2, .int (iI ((a338_ 4) (i))))] [.int (iI i), .ref 23, .ref 18] _ _ _ _
                refine pm_i_ald pm_a169_274 (mh_get (j := 5) hA rfl) (by omega) (by omega) ⟨by omega, by omega⟩ ?_
                show pm_E _ _ _ 275 [(0, .ref 18), (1, .int (iI i)), (2, .int (iI ((a338_ 4) (i))))] [.int (iI ((a338_ 5) (i))), .ref 18] _ _ _ _
                refine pm_e_sim pm_a169_275 rfl ?_
                refine pm_e_top (y := iI 1) (by decide +kernel) ?_
                show pm_E _ _ _ 276 [(0, .ref 18), (1, .int (iI i)), (2, .int (iI ((a338_ 4) (i))))] [.int (iI 1), .int (iI ((a338_ 5) (i))), .ref 18] _ _ _ _
                refine pm_e_sim pm_a169_276 rfl ?_
                refine pm_e_top (y := iI ((a338_ 5) (i) - 1)) (iI_sub _ _) ?_
                show pm_E _ _ _ 277 [(0, .ref 18), (1, .int (iI i)), (2, .int (iI ((a338_ 4) (i))))] [.int (iI ((a338_ 5) (i) - 1)), .ref 18] _ _ _ _
                refine pm_e_sim pm_a169_277 rfl ?_
                show pm_E _ _ _ 278 [(0, .ref 18), (1, .int (iI i)), (2, .int (iI ((a338_ 4) (i))))] [.int (iI ((a338_ 4) (i))), .int (iI ((a338_ 5) (i) - 1)), .ref 18] _ _ _ _
                refine pm_e_sim pm_a169_278 rfl ?_
                refine pm_e_top (y := iI 10) (by decide +kernel) ?_
                show pm_E _ _ _ 280 [(0, .ref 18), (1, .int (iI i)), (2, .int (iI ((a338_ 4) (i))))] [.int (iI 10), .int (iI ((a338_ 4) (i))), .int (iI ((a338_ 5) (i) - 1)), .ref 18] _ _ _ _
                refine pm_e_sim pm_a169_280 rfl ?_
                refine pm_e_top (y := iI ((a338_ 4) (i) - 10)) (iI_sub _ _) ?_
                show pm_E _ _ _ 281 [(0, .ref 18), (1, .int (iI i)), (2, .int (iI ((a338_ 4) (i))))] [.int (iI ((a338_ 4) (i) - 10)), .int (iI ((a338_ 5) (i) - 1)), .ref 18] _ _ _ _
                refine pm_e_sim pm_a169_281 rfl ?_
                refine pm_e_top (y := iI ((a338_ 5) (i) - 1 - ((a338_ 4) (i) - 10))) (iI_sub _ _) ?_
                show pm_E _ _ _ 282 [(0, .ref 18), (1, .int (iI i)), (2, .int (iI ((a338_ 4) (i))))] [.int (iI ((a338_ 5) (i) - 1 - ((a338_ 4) (i) - 10))), .ref 18] _ _ _ _
                refine pm_i_callv (k := 18) (T2 := pm_mm173) pm_a169_282 rfl rfl rfl (mh_get (j := 0) hA rfl) ⟨Nat.le_of_ble_eq_true rfl, Nat.le_of_ble_eq_true rfl, rfl, by decide +kernel⟩ ?_
                show pm_E none _ _ 0 [(0, .ref 18), (1, .int (iI ((a338_ 5) (i) - 1 - ((a338_ 4) (i) - 10))))] [] _ _ _ _
                have nl353 := nmC_len ((a338_ 5) (i) - 1 - ((a338_ 4) (i) - 10))
                refine M_sayName (X := ((Y ++ List.replicate (a0 14 i).toNat 41) ++ [32])) hA (by omega) (by omega) t338 (by first | omega | (simp only [List.length_append, List.length_cons, List.length_nil, List.length_replicate]; omega)) (fun s353_ a353_ gs353 ga353 t353 => ?_)
                have fs353 : ∀ j, j ≠ 23 → s353_ j = s0 j := fun j hj => (gs353 j hj).trans (fs338 j hj)
                have fa353 : ∀ j, j ≠ 11 → a353_ j = a0 j := fun j hj => (ga353 j hj).trans (fa338 j hj)
                have y4_353 : a353_ 4 i = a0 4 i := by rw [fa353 4 (by omega)]
                have y5_353 : a353_ 5 i = a0 5 i := by rw [fa353 5 (by omega)]
                have y13_353 : a353_ 13 i = a0 13 i := by rw [fa353 13 (by omega)]
                have y6_353 : s353_ 6 = s0 6 := fs353 6 (by omega)
                show pm_E _ _ _ 285 [(0, .ref 18), (1, .int (iI i)), (2, .int (iI ((a338_ 4) (i))))] [] _ _ _ _
                refine pm_e_goto pm_a169_285 rfl ?_
                show pm_E _ _ _ 338 [(0, .ref 18), (1, .int (iI i)), (2, .int (iI ((a338_ 4) (i))))] [] _ _ _ _
                refine pm_e_inc (y := iI (i + 1)) pm_a169_338 rfl (iI_add _ _) (by decide +kernel) rfl ?_
                show pm_E _ _ _ 341 [(0, .ref 18), (1, .int (iI (i + 1))), (2, .int (iI ((a338_ 4) (i))))] [] _ _ _ _
                refine pm_e_goto pm_a169_341 rfl ?_
                show pm_E _ _ _ 151 [(0, .ref 18), (1, .int (iI (i + 1))), (2, .int (iI ((a338_ 4) (i))))] [] _ _ _ _
                show pm_E _ _ _ 151 ([(0, .ref 18), (1, .int (iI (i + 1)))] ++ [(2, .int (iI ((a338_ 4) (i))))]) [] _ _ _ _
                refine pm_e_more [(2, .int (iI ((a338_ 4) (i))))] (show ([0, 1, 2] : List Nat).Nodup from by decide) ?_
                first
                | (exfalso; omega)
                | (skip
                   have e9 : sq3 (updI (a0 4) (s0 6) 0) (a0 5) (a0 12, a0 13, a0 14) (i + 1).toNat 0 = (((Y ++ List.replicate (a0 14 i).toNat 41) ++ [32]) ++ nmC ((a338_ 5) (i) - 1 - ((a338_ 4) (i) - 10))) := by
                     rw [show (i + 1).toNat = i.toNat + 1 by omega, sq3_snoc, show (0 : Int) + (i.toNat : Int) = i by omega, hYe]
                     rw [gp3_e (u := [32]) (v := []) (if_pos (by show a0 12 i ≠ 0; omega)) (if_neg (by show ¬ a0 13 i ≠ 0; omega))]
                     rw [show (updI (a0 4) (s0 6) 0) i = a0 4 i by unfold updI; rw [if_neg (by omega)], txN_v (by omega)]
                     rw [show a0 5 i - 1 - (a0 4 i - 10) = (a338_ 5) (i) - 1 - ((a338_ 4) (i) - 10) from by omega]
                     try dsimp only
                     simp only [List.append_assoc, List.cons_append, List.nil_append, List.append_nil]
                   rw [← e9] at t353
                   exact ih (i + 1) s353_ a353_ (by omega) (by omega) fs353 fa353 t353 kk (by omega))
            · skip
              show pm_E _ _ _ 237 [(0, .ref 18), (1, .int (iI i)), (2, .int (iI ((a338_ 4) (i))))] [] _ _ _ _
              refine pm_e_sim pm_a169_237 rfl ?_
              show pm_E _ _ _ 238 [(0, .ref 18), (1, .int (iI i)), (2, .int (iI ((a338_ 4) (i))))] [.ref 18] _ _ _ _
              refine pm_e_sim pm_a169_238 rfl ?_
              refine pm_e_top (y := iI 92) (by decide +kernel) ?_
              show pm_E _ _ _ 240 [(0, .ref 18), (1, .int (iI i)), (2, .int (iI ((a338_ 4) (i))))] [.int (iI 92), .ref 18] _ _ _ _
              refine pm_i_callv (k := 18) (T2 := pm_mm172) pm_a169_240 rfl rfl rfl (mh_get (j := 0) hA rfl) ⟨Nat.le_of_ble_eq_true rfl, Nat.le_of_ble_eq_true rfl, rfl, by decide +kernel⟩ ?_
              show pm_E none _ _ 0 [(0, .ref 18), (1, .int (iI 92))] [] _ _ _ _
              refine M_sayT (X := ((Y ++ List.replicate (a0 14 i).toNat 41) ++ [32])) hA t338 (by first | omega | (simp only [List.length_append, List.length_cons, List.length_nil, List.length_replicate]; omega)) (fun s354_ a354_ gs354 ga354 t354 => ?_)
              have fs354 : ∀ j, j ≠ 23 → s354_ j = s0 j := fun j hj => (gs354 j hj).trans (fs338 j hj)
              have fa354 : ∀ j, j ≠ 11 → a354_ j = a0 j := fun j hj => (ga354 j hj).trans (fa338 j hj)
              have y4_354 : a354_ 4 i = a0 4 i := by rw [fa354 4 (by omega)]
              have y5_354 : a354_ 5 i = a0 5 i := by rw [fa354 5 (by omega)]
              have y13_354 : a354_ 13 i = a0 13 i := by rw [fa354 13 (by omega)]
              have y6_354 : s354_ 6 = s0 6 := fs354 6 (by omega)
              show pm_E _ _ _ 243 [(0, .ref 18), (1, .int (iI i)), (2, .int (iI ((a338_ 4) (i))))] [] _ _ _ _
              refine pm_e_sim pm_a169_243 rfl ?_
              show pm_E _ _ _ 244 [(0, .ref 18), (1, .int (iI i)), (2, .int (iI ((a338_ 4) (i))))] [.ref 18] _ _ _ _
              refine pm_e_sim pm_a169_244 rfl ?_
              show pm_E _ _ _ 245 [(0, .ref 18), (1, .int (iI i)), (2, .int (iI ((a338_ 4) (i))))] [.ref 18, .ref 18] _ _ _ _
              refine pm_i_get pm_a169_245 rfl (mh_get (j := 0) hA rfl) rfl ?_
              show pm_E _ _ _ 248 [(0, .ref 18), (1, .int (iI i)), (2, .int (iI ((a338_ 4) (i))))] [.ref 23, .ref 18] _ _ _ _
              refine pm_e_sim pm_a169_248 rfl ?_
              show pm_E _ _ _ 249 [(0, .ref 18), (1, .int (iI i)), (2, .int (iI ((a338_ 4) (i))))] [.int (iI i), .ref 23, .ref 18] _ _ _ _
              refine pm_i_ald pm_a169_249 (mh_get (j := 5) hA rfl) (by omega) (by omega) ⟨by omega, by omega⟩ ?_
              show pm_E _ _ _ 250 [(0, .ref 18), (1, .int (iI i)), (2, .int (iI ((a338_ 4) (i))))] [.int (iI ((a354_ 5) (i))), .ref 18] _ _ _ _
              refine pm_i_callv (k := 18) (T2 := pm_mm173) pm_a169_250 rfl rfl rfl (mh_get (j := 0) hA rfl) ⟨Nat.le_of_ble_eq_true rfl, Nat.le_of_ble_eq_true rfl, rfl, by decide +kernel⟩ ?_
              show pm_E none _ _ 0 [(0, .ref 18), (1, .int (iI ((a354_ 5) (i))))] [] _ _ _ _
              have nl355 := nmC_len ((a354_ 5) (i))
              refine M_sayName (X := (((Y ++ List.replicate (a0 14 i).toNat 41) ++ [32]) ++ [92])) hA (by omega) (by omega) t354 (by first | omega | (simp only [List.length_append, List.length_cons, List.length_nil, List.length_replicate]; omega)) (fun s355_ a355_ gs355 ga355 t355 => ?_)
              have fs355 : ∀ j, j ≠ 23 → s355_ j = s0 j := fun j hj => (gs355 j hj).trans (fs354 j hj)
              have fa355 : ∀ j, j ≠ 11 → a355_ j = a0 j := fun j hj => (ga355 j hj).trans (fa354 j hj)
              have y4_355 : a355_ 4 i = a0 4 i := by rw [fa355 4 (by omega)]
              have y5_355 : a355_ 5 i = a0 5 i := by rw [fa355 5 (by omega)]
              have y13_355 : a355_ 13 i = a0 13 i := by rw [fa355 13 (by omega)]
              have y6_355 : s355_ 6 = s0 6 := fs355 6 (by omega)
              show pm_E _ _ _ 253 [(0, .ref 18), (1, .int (iI i)), (2, .int (iI ((a338_ 4) (i))))] [] _ _ _ _
              refine pm_e_sim pm_a169_253 rfl ?_
              show pm_E _ _ _ 254 [(0, .ref 18), (1, .int (iI i)), (2, .int (iI ((a338_ 4) (i))))] [.ref 18] _ _ _ _
              refine pm_e_sim pm_a169_254 rfl ?_
              refine pm_e_top (y := iI 46) (by decide +kernel) ?_
              show pm_E _ _ _ 256 [(0, .ref 18), (1, .int (iI i)), (2, .int (iI ((a338_ 4) (i))))] [.int (iI 46), .ref 18] _ _ _ _
              refine pm_i_callv (k := 18) (T2 := pm_mm172) pm_a169_256 rfl rfl rfl (mh_get (j := 0) hA rfl) ⟨Nat.le_of_ble_eq_true rfl, Nat.le_of_ble_eq_true rfl, rfl, by decide +kernel⟩ ?_
              show pm_E none _ _ 0 [(0, .ref 18), (1, .int (iI 46))] [] _ _ _ _
              refine M_sayT (X := ((((Y ++ List.replicate (a0 14 i).toNat 41) ++ [32]) ++ [92]) ++ nmC ((a354_ 5) (i)))) hA t355 (by first | omega | (simp only [List.length_append, List.length_cons, List.length_nil, List.length_replicate]; omega)) (fun s356_ a356_ gs356 ga356 t356 => ?_)
              have fs356 : ∀ j, j ≠ 23 → s356_ j = s0 j := fun j hj => (gs356 j hj).trans (fs355 j hj)
              have fa356 : ∀ j, j ≠ 11 → a356_ j = a0 j := fun j hj => (ga356 j hj).trans (fa355 j hj)
              have y4_356 : a356_ 4 i = a0 4 i := by rw [fa356 4 (by omega)]
              have y5_356 : a356_ 5 i = a0 5 i := by rw [fa356 5 (by omega)]
              have y13_356 : a356_ 13 i = a0 13 i := by rw [fa356 13 (by omega)]
              have y6_356 : s356_ 6 = s0 6 := fs356 6 (by omega)
              show pm_E _ _ _ 259 [(0, .ref 18), (1, .int (iI i)), (2, .int (iI ((a338_ 4) (i))))] [] _ _ _ _
              refine pm_e_goto pm_a169_259 rfl ?_
              show pm_E _ _ _ 338 [(0, .ref 18), (1, .int (iI i)), (2, .int (iI ((a338_ 4) (i))))] [] _ _ _ _
              refine pm_e_inc (y := iI (i + 1)) pm_a169_338 rfl (iI_add _ _) (by decide +kernel) rfl ?_
              show pm_E _ _ _ 341 [(0, .ref 18), (1, .int (iI (i + 1))), (2, .int (iI ((a338_ 4) (i))))] [] _ _ _ _
              refine pm_e_goto pm_a169_341 rfl ?_
              show pm_E _ _ _ 151 [(0, .ref 18), (1, .int (iI (i + 1))), (2, .int (iI ((a338_ 4) (i))))] [] _ _ _ _
              show pm_E _ _ _ 151 ([(0, .ref 18), (1, .int (iI (i + 1)))] ++ [(2, .int (iI ((a338_ 4) (i))))]) [] _ _ _ _
              refine pm_e_more [(2, .int (iI ((a338_ 4) (i))))] (show ([0, 1, 2] : List Nat).Nodup from by decide) ?_
              first
              | (exfalso; omega)
              | (skip
                 have e9 : sq3 (updI (a0 4) (s0 6) 0) (a0 5) (a0 12, a0 13, a0 14) (i + 1).toNat 0 = (((((Y ++ List.replicate (a0 14 i).toNat 41) ++ [32]) ++ [92]) ++ nmC ((a354_ 5) (i))) ++ [46]) := by
                   rw [show (i + 1).toNat = i.toNat + 1 by omega, sq3_snoc, show (0 : Int) + (i.toNat : Int) = i by omega, hYe]
                   rw [gp3_e (u := [32]) (v := []) (if_pos (by show a0 12 i ≠ 0; omega)) (if_neg (by show ¬ a0 13 i ≠ 0; omega))]
                   rw [show (updI (a0 4) (s0 6) 0) i = 1 by unfold updI; rw [if_neg (by omega)]; omega, txN_1, show a0 5 i = (a354_ 5) (i) from by omega]
                   try dsimp only
                   simp only [List.append_assoc, List.cons_append, List.nil_append, List.append_nil]
                 rw [← e9] at t356
                 exact ih (i + 1) s356_ a356_ (by omega) (by omega) fs356 fa356 t356 kk (by omega))
        · skip
          show pm_E _ _ _ 207 [(0, .ref 18), (1, .int (iI i)), (2, .int (iI (k')))] [] _ _ _ _
          refine pm_e_sim pm_a169_207 rfl ?_
          show pm_E _ _ _ 208 [(0, .ref 18), (1, .int (iI i)), (2, .int (iI (k')))] [.ref 18] _ _ _ _
          refine pm_e_sim pm_a169_208 rfl ?_
          refine pm_e_top (y := iI 40) (by decide +kernel) ?_
          show pm_E _ _ _ 210 [(0, .ref 18), (1, .int (iI i)), (2, .int (iI (k')))] [.int (iI 40), .ref 18] _ _ _ _
          refine pm_i_callv (k := 18) (T2 := pm_mm172) pm_a169_210 rfl rfl rfl (mh_get (j := 0) hA rfl) ⟨Nat.le_of_ble_eq_true rfl, Nat.le_of_ble_eq_true rfl, rfl, by decide +kernel⟩ ?_
          show pm_E none _ _ 0 [(0, .ref 18), (1, .int (iI 40))] [] _ _ _ _
          refine M_sayT (X := ((Y ++ List.replicate (a0 14 i).toNat 41) ++ [32])) hA t338 (by first | omega | (simp only [List.length_append, List.length_cons, List.length_nil, List.length_replicate]; omega)) (fun s357_ a357_ gs357 ga357 t357 => ?_)
          have fs357 : ∀ j, j ≠ 23 → s357_ j = s0 j := fun j hj => (gs357 j hj).trans (fs338 j hj)
          have fa357 : ∀ j, j ≠ 11 → a357_ j = a0 j := fun j hj => (ga357 j hj).trans (fa338 j hj)
          have y4_357 : a357_ 4 i = a0 4 i := by rw [fa357 4 (by omega)]
          have y5_357 : a357_ 5 i = a0 5 i := by rw [fa357 5 (by omega)]
          have y13_357 : a357_ 13 i = a0 13 i := by rw [fa357 13 (by omega)]
          have y6_357 : s357_ 6 = s0 6 := fs357 6 (by omega)
          show pm_E _ _ _ 213 [(0, .ref 18), (1, .int (iI i)), (2, .int (iI (k')))] [] _ _ _ _
          refine pm_e_sim pm_a169_213 rfl ?_
          show pm_E _ _ _ 214 [(0, .ref 18), (1, .int (iI i)), (2, .int (iI (k')))] [.int (iI i)] _ _ _ _
          refine pm_e_sim pm_a169_214 rfl ?_
          show pm_E _ _ _ 215 [(0, .ref 18), (1, .int (iI i)), (2, .int (iI (k')))] [.ref 18, .int (iI i)] _ _ _ _
          refine pm_i_get pm_a169_215 rfl (mh_get (j := 0) hA rfl) rfl ?_
          show pm_E _ _ _ 218 [(0, .ref 18), (1, .int (iI i)), (2, .int (iI (k')))] [.int (iI (s357_ 6)), .int (iI i)] _ _ _ _
          refine pm_c_ge (t := 230) pm_a169_218 rfl ⟨by omega, by omega⟩ ⟨by omega, by omega⟩ (fun h_358 => ?_) (fun h_358 => ?_)
          · skip
            show pm_E _ _ _ 230 [(0, .ref 18), (1, .int (iI i)), (2, .int (iI (k')))] [] _ _ _ _
            refine pm_e_sim pm_a169_230 rfl ?_
            refine pm_e_top (y := iI 0) (by decide +kernel) ?_
            show pm_E _ _ _ 231 [(0, .ref 18), (1, .int (iI i)), (2, .int (iI (k')))] [.int (iI 0)] _ _ _ _
            refine pm_e_sim pm_a169_231 rfl ?_
            show pm_E _ _ _ 232 [(0, .ref 18), (1, .int (iI i)), (2, .int (iI 0))] [] _ _ _ _
            refine pm_e_sim pm_a169_232 rfl ?_
            show pm_E _ _ _ 233 [(0, .ref 18), (1, .int (iI i)), (2, .int (iI 0))] [.int (iI 0)] _ _ _ _
            refine pm_e_sim pm_a169_233 rfl ?_
            refine pm_e_top (y := iI 1) (by decide +kernel) ?_
            show pm_E _ _ _ 234 [(0, .ref 18), (1, .int (iI i)), (2, .int (iI 0))] [.int (iI 1), .int (iI 0)] _ _ _ _
            refine pm_e_ict pm_a169_234 rfl (by decide +kernel) ?_
            show pm_E _ _ _ 262 [(0, .ref 18), (1, .int (iI i)), (2, .int (iI 0))] [] _ _ _ _
            refine pm_e_sim pm_a169_262 rfl ?_
            show pm_E _ _ _ 263 [(0, .ref 18), (1, .int (iI i)), (2, .int (iI 0))] [.int (iI 0)] _ _ _ _
            refine pm_e_sim pm_a169_263 rfl ?_
            refine pm_e_top (y := iI 9) (by decide +kernel) ?_
            show pm_E _ _ _ 265 [(0, .ref 18), (1, .int (iI i)), (2, .int (iI 0))] [.int (iI 9), .int (iI 0)] _ _ _ _
            refine pm_e_ict pm_a169_265 rfl (by decide +kernel) ?_
            show pm_E _ _ _ 288 [(0, .ref 18), (1, .int (iI i)), (2, .int (iI 0))] [] _ _ _ _
            refine pm_e_sim pm_a169_288 rfl ?_
            show pm_E _ _ _ 289 [(0, .ref 18), (1, .int (iI i)), (2, .int (iI 0))] [.int (iI 0)] _ _ _ _
            refine pm_e_ift pm_a169_289 rfl (by decide +kernel) ?_
            show pm_E _ _ _ 338 [(0, .ref 18), (1, .int (iI i)), (2, .int (iI 0))] [] _ _ _ _
            refine pm_e_inc (y := iI (i + 1)) pm_a169_338 rfl (iI_add _ _) (by decide +kernel) rfl ?_
            show pm_E _ _ _ 341 [(0, .ref 18), (1, .int (iI (i + 1))), (2, .int (iI 0))] [] _ _ _ _
            refine pm_e_goto pm_a169_341 rfl ?_
            show pm_E _ _ _ 151 [(0, .ref 18), (1, .int (iI (i + 1))), (2, .int (iI 0))] [] _ _ _ _
            show pm_E _ _ _ 151 ([(0, .ref 18), (1, .int (iI (i + 1)))] ++ [(2, .int (iI 0))]) [] _ _ _ _
            refine pm_e_more [(2, .int (iI 0))] (show ([0, 1, 2] : List Nat).Nodup from by decide) ?_
            first
            | (exfalso; omega)
            | (skip
               have e9 : sq3 (updI (a0 4) (s0 6) 0) (a0 5) (a0 12, a0 13, a0 14) (i + 1).toNat 0 = (((Y ++ List.replicate (a0 14 i).toNat 41) ++ [32]) ++ [40]) := by
                 rw [show (i + 1).toNat = i.toNat + 1 by omega, sq3_snoc, show (0 : Int) + (i.toNat : Int) = i by omega, hYe]
                 rw [gp3_e (u := [32]) (v := [40]) (if_pos (by show a0 12 i ≠ 0; omega)) (if_pos (by show a0 13 i ≠ 0; omega))]
                 rw [show (updI (a0 4) (s0 6) 0) i = 0 by unfold updI; split <;> omega, txN_0]
                 try dsimp only
                 simp only [List.append_assoc, List.cons_append, List.nil_append, List.append_nil]
               rw [← e9] at t357
               exact ih (i + 1) s357_ a357_ (by omega) (by omega) fs357 fa357 t357 kk (by omega))
          · skip
            show pm_E _ _ _ 221 [(0, .ref 18), (1, .int (iI i)), (2, .int (iI (k')))] [] _ _ _ _
            refine pm_e_sim pm_a169_221 rfl ?_
            show pm_E _ _ _ 222 [(0, .ref 18), (1, .int (iI i)), (2, .int (iI (k')))] [.ref 18] _ _ _ _
            refine pm_i_get pm_a169_222 rfl (mh_get (j := 0) hA rfl) rfl ?_
            show pm_E _ _ _ 225 [(0, .ref 18), (1, .int (iI i)), (2, .int (iI (k')))] [.ref 22] _ _ _ _
            refine pm_e_sim pm_a169_225 rfl ?_
            show pm_E _ _ _ 226 [(0, .ref 18), (1, .int (iI i)), (2, .int (iI (k')))] [.int (iI i), .ref 22] _ _ _ _
            refine pm_i_ald pm_a169_226 (mh_get (j := 4) hA rfl) (by omega) (by omega) ⟨by omega, by omega⟩ ?_
            show pm_E _ _ _ 227 [(0, .ref 18), (1, .int (iI i)), (2, .int (iI (k')))] [.int (iI ((a357_ 4) (i)))] _ _ _ _
            refine pm_e_goto pm_a169_227 rfl ?_
            show pm_E _ _ _ 231 [(0, .ref 18), (1, .int (iI i)), (2, .int (iI (k')))] [.int (iI ((a357_ 4) (i)))] _ _ _ _
            refine pm_e_sim pm_a169_231 rfl ?_
            show pm_E _ _ _ 232 [(0, .ref 18), (1, .int (iI i)), (2, .int (iI ((a357_ 4) (i))))] [] _ _ _ _
            refine pm_e_sim pm_a169_232 rfl ?_
            show pm_E _ _ _ 233 [(0, .ref 18), (1, .int (iI i)), (2, .int (iI ((a357_ 4) (i))))] [.int (iI ((a357_ 4) (i)))] _ _ _ _
            refine pm_e_sim pm_a169_233 rfl ?_
            refine pm_e_top (y := iI 1) (by decide +kernel) ?_
            show pm_E _ _ _ 234 [(0, .ref 18), (1, .int (iI i)), (2, .int (iI ((a357_ 4) (i))))] [.int (iI 1), .int (iI ((a357_ 4) (i)))] _ _ _ _
            refine pm_c_ne (t := 262) pm_a169_234 rfl ⟨by omega, by omega⟩ ⟨by omega, by omega⟩ (fun h_359 => ?_) (fun h_359 => ?_)
            · skip
              show pm_E _ _ _ 262 [(0, .ref 18), (1, .int (iI i)), (2, .int (iI ((a357_ 4) (i))))] [] _ _ _ _
              refine pm_e_sim pm_a169_262 rfl ?_
              show pm_E _ _ _ 263 [(0, .ref 18), (1, .int (iI i)), (2, .int (iI ((a357_ 4) (i))))] [.int (iI ((a357_ 4) (i)))] _ _ _ _
              refine pm_e_sim pm_a169_263 rfl ?_
              refine pm_e_top (y := iI 9) (by decide +kernel) ?_
              show pm_E _ _ _ 265 [(0, .ref 18), (1, .int (iI i)), (2, .int (iI ((a357_ 4) (i))))] [.int (iI 9), .int (iI ((a357_ 4) (i)))] _ _ _ _
              refine pm_c_le (t := 288) pm_a169_265 rfl ⟨by omega, by omega⟩ ⟨by omega, by omega⟩ (fun h_360 => ?_) (fun h_360 => ?_)
              · skip
                show pm_E _ _ _ 288 [(0, .ref 18), (1, .int (iI i)), (2, .int (iI ((a357_ 4) (i))))] [] _ _ _ _
                refine pm_e_sim pm_a169_288 rfl ?_
                show pm_E _ _ _ 289 [(0, .ref 18), (1, .int (iI i)), (2, .int (iI ((a357_ 4) (i))))] [.int (iI ((a357_ 4) (i)))] _ _ _ _
                refine pm_i_eq (t := 338) pm_a169_289 rfl ⟨by omega, by omega⟩ (fun h_361 => ?_) (fun h_361 => ?_)
                · skip
                  show pm_E _ _ _ 338 [(0, .ref 18), (1, .int (iI i)), (2, .int (iI ((a357_ 4) (i))))] [] _ _ _ _
                  refine pm_e_inc (y := iI (i + 1)) pm_a169_338 rfl (iI_add _ _) (by decide +kernel) rfl ?_
                  show pm_E _ _ _ 341 [(0, .ref 18), (1, .int (iI (i + 1))), (2, .int (iI ((a357_ 4) (i))))] [] _ _ _ _
                  refine pm_e_goto pm_a169_341 rfl ?_
                  show pm_E _ _ _ 151 [(0, .ref 18), (1, .int (iI (i + 1))), (2, .int (iI ((a357_ 4) (i))))] [] _ _ _ _
                  show pm_E _ _ _ 151 ([(0, .ref 18), (1, .int (iI (i + 1)))] ++ [(2, .int (iI ((a357_ 4) (i))))]) [] _ _ _ _
                  refine pm_e_more [(2, .int (iI ((a357_ 4) (i))))] (show ([0, 1, 2] : List Nat).Nodup from by decide) ?_
                  first
                  | (exfalso; omega)
                  | (skip
                     have e9 : sq3 (updI (a0 4) (s0 6) 0) (a0 5) (a0 12, a0 13, a0 14) (i + 1).toNat 0 = (((Y ++ List.replicate (a0 14 i).toNat 41) ++ [32]) ++ [40]) := by
                       rw [show (i + 1).toNat = i.toNat + 1 by omega, sq3_snoc, show (0 : Int) + (i.toNat : Int) = i by omega, hYe]
                       rw [gp3_e (u := [32]) (v := [40]) (if_pos (by show a0 12 i ≠ 0; omega)) (if_pos (by show a0 13 i ≠ 0; omega))]
                       rw [show (updI (a0 4) (s0 6) 0) i = 0 by unfold updI; split <;> omega, txN_0]
                       try dsimp only
                       simp only [List.append_assoc, List.cons_append, List.nil_append, List.append_nil]
                     rw [← e9] at t357
                     exact ih (i + 1) s357_ a357_ (by omega) (by omega) fs357 fa357 t357 kk (by omega))
                · skip
                  show pm_E _ _ _ 292 [(0, .ref 18), (1, .int (iI i)), (2, .int (iI ((a357_ 4) (i))))] [] _ _ _ _
                  refine pm_e_sim pm_a169_292 rfl ?_
                  show pm_E _ _ _ 293 [(0, .ref 18), (1, .int (iI i)), (2, .int (iI ((a357_ 4) (i))))] [.ref 18] _ _ _ _
                  refine pm_e_sim pm_a169_293 rfl ?_
                  show pm_E _ _ _ 294 [(0, .ref 18), (1, .int (iI i)), (2, .int (iI ((a357_ 4) (i))))] [.int (iI ((a357_ 4) (i))), .ref 18] _ _ _ _
                  refine pm_e_sim pm_a169_294 rfl ?_
                  refine pm_e_top (y := iI 2) (by decide +kernel) ?_
                  show pm_E _ _ _ 295 [(0, .ref 18), (1, .int (iI i)), (2, .int (iI ((a357_ 4) (i))))] [.int (iI 2), .int (iI ((a357_ 4) (i))), .ref 18] _ _ _ _
                  refine pm_c_ne (t := 303) pm_a169_295 rfl ⟨by omega, by omega⟩ ⟨by omega, by omega⟩ (fun h_362 => ?_) (fun h_362 => ?_)
                  · skip
                    show pm_E _ _ _ 303 [(0, .ref 18), (1, .int (iI i)), (2, .int (iI ((a357_ 4) (i))))] [.ref 18] _ _ _ _
                    refine pm_e_sim pm_a169_303 rfl ?_
                    show pm_E _ _ _ 304 [(0, .ref 18), (1, .int (iI i)), (2, .int (iI ((a357_ 4) (i))))] [.int (iI ((a357_ 4) (i))), .ref 18] _ _ _ _
                    refine pm_e_sim pm_a169_304 rfl ?_
                    refine pm_e_top (y := iI 3) (by decide +kernel) ?_
                    show pm_E _ _ _ 305 [(0, .ref 18), (1, .int (iI i)), (2, .int (iI ((a357_ 4) (i))))] [.int (iI 3), .int (iI ((a357_ 4) (i))), .ref 18] _ _ _ _
                    refine pm_c_ne (t := 313) pm_a169_305 rfl ⟨by omega, by omega⟩ ⟨by omega, by omega⟩ (fun h_363 => ?_) (fun h_363 => ?_)
                    · skip
                      show pm_E _ _ _ 313 [(0, .ref 18), (1, .int (iI i)), (2, .int (iI ((a357_ 4) (i))))] [.ref 18] _ _ _ _
                      refine pm_e_sim pm_a169_313 rfl ?_
                      show pm_E _ _ _ 314 [(0, .ref 18), (1, .int (iI i)), (2, .int (iI ((a357_ 4) (i))))] [.int (iI ((a357_ 4) (i))), .ref 18] _ _ _ _
                      refine pm_e_sim pm_a169_314 rfl ?_
                      refine pm_e_top (y := iI 4) (by decide +kernel) ?_
                      show pm_E _ _ _ 315 [(0, .ref 18), (1, .int (iI i)), (2, .int (iI ((a357_ 4) (i))))] [.int (iI 4), .int (iI ((a357_ 4) (i))), .ref 18] _ _ _ _
                      refine pm_c_ne (t := 323) pm_a169_315 rfl ⟨by omega, by omega⟩ ⟨by omega, by omega⟩ (fun h_364 => ?_) (fun h_364 => ?_)
                      · skip
                        show pm_E _ _ _ 323 [(0, .ref 18), (1, .int (iI i)), (2, .int (iI ((a357_ 4) (i))))] [.ref 18] _ _ _ _
                        refine pm_e_sim pm_a169_323 rfl ?_
                        show pm_E _ _ _ 324 [(0, .ref 18), (1, .int (iI i)), (2, .int (iI ((a357_ 4) (i))))] [.int (iI ((a357_ 4) (i))), .ref 18] _ _ _ _
                        refine pm_e_sim pm_a169_324 rfl ?_
                        refine pm_e_top (y := iI 5) (by decide +kernel) ?_
                        show pm_E _ _ _ 325 [(0, .ref 18), (1, .int (iI i)), (2, .int (iI ((a357_ 4) (i))))] [.int (iI 5), .int (iI ((a357_ 4) (i))), .ref 18] _ _ _ _
                        refine pm_c_ne (t := 333) pm_a169_325 rfl ⟨by omega, by omega⟩ ⟨by omega, by omega⟩ (fun h_365 => ?_) (fun h_365 => ?_)
                        · skip
                          show pm_E _ _ _ 333 [(0, .ref 18), (1, .int (iI i)), (2, .int (iI ((a357_ 4) (i))))] [.ref 18] _ _ _ _
                          refine pm_e_sim pm_a169_333 rfl ?_
                          refine pm_e_top (y := iI 88) (by decide +kernel) ?_
                          show pm_E _ _ _ 335 [(0, .ref 18), (1, .int (iI i)), (2, .int (iI ((a357_ 4) (i))))] [.int (iI 88), .ref 18] _ _ _ _
                          refine pm_i_callv (k := 18) (T2 := pm_mm172) pm_a169_335 rfl rfl rfl (mh_get (j := 0) hA rfl) ⟨Nat.le_of_ble_eq_true rfl, Nat.le_of_ble_eq_true rfl, rfl, by decide +kernel⟩ ?_
                          show pm_E none _ _ 0 [(0, .ref 18), (1, .int (iI 88))] [] _ _ _ _
                          refine M_sayT (X := (((Y ++ List.replicate (a0 14 i).toNat 41) ++ [32]) ++ [40])) hA t357 (by first | omega | (simp only [List.length_append, List.length_cons, List.length_nil, List.length_replicate]; omega)) (fun s366_ a366_ gs366 ga366 t366 => ?_)
                          have fs366 : ∀ j, j ≠ 23 → s366_ j = s0 j := fun j hj => (gs366 j hj).trans (fs357 j hj)
                          have fa366 : ∀ j, j ≠ 11 → a366_ j = a0 j := fun j hj => (ga366 j hj).trans (fa357 j hj)
                          have y4_366 : a366_ 4 i = a0 4 i := by rw [fa366 4 (by omega)]
                          have y5_366 : a366_ 5 i = a0 5 i := by rw [fa366 5 (by omega)]
                          have y13_366 : a366_ 13 i = a0 13 i := by rw [fa366 13 (by omega)]
                          have y6_366 : s366_ 6 = s0 6 := fs366 6 (by omega)
                          show pm_E _ _ _ 338 [(0, .ref 18), (1, .int (iI i)), (2, .int (iI ((a357_ 4) (i))))] [] _ _ _ _
                          refine pm_e_inc (y := iI (i + 1)) pm_a169_338 rfl (iI_add _ _) (by decide +kernel) rfl ?_
                          show pm_E _ _ _ 341 [(0, .ref 18), (1, .int (iI (i + 1))), (2, .int (iI ((a357_ 4) (i))))] [] _ _ _ _
                          refine pm_e_goto pm_a169_341 rfl ?_
                          show pm_E _ _ _ 151 [(0, .ref 18), (1, .int (iI (i + 1))), (2, .int (iI ((a357_ 4) (i))))] [] _ _ _ _
                          show pm_E _ _ _ 151 ([(0, .ref 18), (1, .int (iI (i + 1)))] ++ [(2, .int (iI ((a357_ 4) (i))))]) [] _ _ _ _
                          refine pm_e_more [(2, .int (iI ((a357_ 4) (i))))] (show ([0, 1, 2] : List Nat).Nodup from by decide) ?_
                          first
                          | (exfalso; omega)
                          | (skip
                             have e9 : sq3 (updI (a0 4) (s0 6) 0) (a0 5) (a0 12, a0 13, a0 14) (i + 1).toNat 0 = ((((Y ++ List.replicate (a0 14 i).toNat 41) ++ [32]) ++ [40]) ++ [88]) := by
                               rw [show (i + 1).toNat = i.toNat + 1 by omega, sq3_snoc, show (0 : Int) + (i.toNat : Int) = i by omega, hYe]
                               rw [gp3_e (u := [32]) (v := [40]) (if_pos (by show a0 12 i ≠ 0; omega)) (if_pos (by show a0 13 i ≠ 0; omega))]
                               rw [show (updI (a0 4) (s0 6) 0) i = a0 4 i by unfold updI; rw [if_neg (by omega)], txN_l (by omega) (by omega)]
                               rw [show txL (a0 4 i) = 88 from by unfold txL; repeat' split; all_goals omega]
                               try dsimp only
                               simp only [List.append_assoc, List.cons_append, List.nil_append, List.append_nil]
                             rw [← e9] at t366
                             exact ih (i + 1) s366_ a366_ (by omega) (by omega) fs366 fa366 t366 kk (by omega))
                        · skip
                          show pm_E _ _ _ 328 [(0, .ref 18), (1, .int (iI i)), (2, .int (iI ((a357_ 4) (i))))] [.ref 18] _ _ _ _
                          refine pm_e_sim pm_a169_328 rfl ?_
                          refine pm_e_top (y := iI 70) (by decide +kernel) ?_
                          show pm_E _ _ _ 330 [(0, .ref 18), (1, .int (iI i)), (2, .int (iI ((a357_ 4) (i))))] [.int (iI 70), .ref 18] _ _ _ _
                          refine pm_e_goto pm_a169_330 rfl ?_
                          show pm_E _ _ _ 335 [(0, .ref 18), (1, .int (iI i)), (2, .int (iI ((a357_ 4) (i))))] [.int (iI 70), .ref 18] _ _ _ _
                          refine pm_i_callv (k := 18) (T2 := pm_mm172) pm_a169_335 rfl rfl rfl (mh_get (j := 0) hA rfl) ⟨Nat.le_of_ble_eq_true rfl, Nat.le_of_ble_eq_true rfl, rfl, by decide +kernel⟩ ?_
                          show pm_E none _ _ 0 [(0, .ref 18), (1, .int (iI 70))] [] _ _ _ _
                          refine M_sayT (X := (((Y ++ List.replicate (a0 14 i).toNat 41) ++ [32]) ++ [40])) hA t357 (by first | omega | (simp only [List.length_append, List.length_cons, List.length_nil, List.length_replicate]; omega)) (fun s367_ a367_ gs367 ga367 t367 => ?_)
                          have fs367 : ∀ j, j ≠ 23 → s367_ j = s0 j := fun j hj => (gs367 j hj).trans (fs357 j hj)
                          have fa367 : ∀ j, j ≠ 11 → a367_ j = a0 j := fun j hj => (ga367 j hj).trans (fa357 j hj)
                          have y4_367 : a367_ 4 i = a0 4 i := by rw [fa367 4 (by omega)]
                          have y5_367 : a367_ 5 i = a0 5 i := by rw [fa367 5 (by omega)]
                          have y13_367 : a367_ 13 i = a0 13 i := by rw [fa367 13 (by omega)]
                          have y6_367 : s367_ 6 = s0 6 := fs367 6 (by omega)
                          show pm_E _ _ _ 338 [(0, .ref 18), (1, .int (iI i)), (2, .int (iI ((a357_ 4) (i))))] [] _ _ _ _
                          refine pm_e_inc (y := iI (i + 1)) pm_a169_338 rfl (iI_add _ _) (by decide +kernel) rfl ?_
                          show pm_E _ _ _ 341 [(0, .ref 18), (1, .int (iI (i + 1))), (2, .int (iI ((a357_ 4) (i))))] [] _ _ _ _
                          refine pm_e_goto pm_a169_341 rfl ?_
                          show pm_E _ _ _ 151 [(0, .ref 18), (1, .int (iI (i + 1))), (2, .int (iI ((a357_ 4) (i))))] [] _ _ _ _
                          show pm_E _ _ _ 151 ([(0, .ref 18), (1, .int (iI (i + 1)))] ++ [(2, .int (iI ((a357_ 4) (i))))]) [] _ _ _ _
                          refine pm_e_more [(2, .int (iI ((a357_ 4) (i))))] (show ([0, 1, 2] : List Nat).Nodup from by decide) ?_
                          first
                          | (exfalso; omega)
                          | (skip
                             have e9 : sq3 (updI (a0 4) (s0 6) 0) (a0 5) (a0 12, a0 13, a0 14) (i + 1).toNat 0 = ((((Y ++ List.replicate (a0 14 i).toNat 41) ++ [32]) ++ [40]) ++ [70]) := by
                               rw [show (i + 1).toNat = i.toNat + 1 by omega, sq3_snoc, show (0 : Int) + (i.toNat : Int) = i by omega, hYe]
                               rw [gp3_e (u := [32]) (v := [40]) (if_pos (by show a0 12 i ≠ 0; omega)) (if_pos (by show a0 13 i ≠ 0; omega))]
                               rw [show (updI (a0 4) (s0 6) 0) i = a0 4 i by unfold updI; rw [if_neg (by omega)], txN_l (by omega) (by omega)]
                               rw [show txL (a0 4 i) = 70 from by unfold txL; repeat' split; all_goals omega]
                               try dsimp only
                               simp only [List.append_assoc, List.cons_append, List.nil_append, List.append_nil]
                             rw [← e9] at t367
                             exact ih (i + 1) s367_ a367_ (by omega) (by omega) fs367 fa367 t367 kk (by omega))
                      · skip
                        show pm_E _ _ _ 318 [(0, .ref 18), (1, .int (iI i)), (2, .int (iI ((a357_ 4) (i))))] [.ref 18] _ _ _ _
                        refine pm_e_sim pm_a169_318 rfl ?_
                        refine pm_e_top (y := iI 73) (by decide +kernel) ?_
                        show pm_E _ _ _ 320 [(0, .ref 18), (1, .int (iI i)), (2, .int (iI ((a357_ 4) (i))))] [.int (iI 73), .ref 18] _ _ _ _
                        refine pm_e_goto pm_a169_320 rfl ?_
                        show pm_E _ _ _ 335 [(0, .ref 18), (1, .int (iI i)), (2, .int (iI ((a357_ 4) (i))))] [.int (iI 73), .ref 18] _ _ _ _
                        refine pm_i_callv (k := 18) (T2 := pm_mm172) pm_a169_335 rfl rfl rfl (mh_get (j := 0) hA rfl) ⟨Nat.le_of_ble_eq_true rfl, Nat.le_of_ble_eq_true rfl, rfl, by decide +kernel⟩ ?_
                        show pm_E none _ _ 0 [(0, .ref 18), (1, .int (iI 73))] [] _ _ _ _
                        refine M_sayT (X := (((Y ++ List.replicate (a0 14 i).toNat 41) ++ [32]) ++ [40])) hA t357 (by first | omega | (simp only [List.length_append, List.length_cons, List.length_nil, List.length_replicate]; omega)) (fun s368_ a368_ gs368 ga368 t368 => ?_)
                        have fs368 : ∀ j, j ≠ 23 → s368_ j = s0 j := fun j hj => (gs368 j hj).trans (fs357 j hj)
                        have fa368 : ∀ j, j ≠ 11 → a368_ j = a0 j := fun j hj => (ga368 j hj).trans (fa357 j hj)
                        have y4_368 : a368_ 4 i = a0 4 i := by rw [fa368 4 (by omega)]
                        have y5_368 : a368_ 5 i = a0 5 i := by rw [fa368 5 (by omega)]
                        have y13_368 : a368_ 13 i = a0 13 i := by rw [fa368 13 (by omega)]
                        have y6_368 : s368_ 6 = s0 6 := fs368 6 (by omega)
                        show pm_E _ _ _ 338 [(0, .ref 18), (1, .int (iI i)), (2, .int (iI ((a357_ 4) (i))))] [] _ _ _ _
                        refine pm_e_inc (y := iI (i + 1)) pm_a169_338 rfl (iI_add _ _) (by decide +kernel) rfl ?_
                        show pm_E _ _ _ 341 [(0, .ref 18), (1, .int (iI (i + 1))), (2, .int (iI ((a357_ 4) (i))))] [] _ _ _ _
                        refine pm_e_goto pm_a169_341 rfl ?_
                        show pm_E _ _ _ 151 [(0, .ref 18), (1, .int (iI (i + 1))), (2, .int (iI ((a357_ 4) (i))))] [] _ _ _ _
                        show pm_E _ _ _ 151 ([(0, .ref 18), (1, .int (iI (i + 1)))] ++ [(2, .int (iI ((a357_ 4) (i))))]) [] _ _ _ _
                        refine pm_e_more [(2, .int (iI ((a357_ 4) (i))))] (show ([0, 1, 2] : List Nat).Nodup from by decide) ?_
                        first
                        | (exfalso; omega)
                        | (skip
                           have e9 : sq3 (updI (a0 4) (s0 6) 0) (a0 5) (a0 12, a0 13, a0 14) (i + 1).toNat 0 = ((((Y ++ List.replicate (a0 14 i).toNat 41) ++ [32]) ++ [40]) ++ [73]) := by
                             rw [show (i + 1).toNat = i.toNat + 1 by omega, sq3_snoc, show (0 : Int) + (i.toNat : Int) = i by omega, hYe]
                             rw [gp3_e (u := [32]) (v := [40]) (if_pos (by show a0 12 i ≠ 0; omega)) (if_pos (by show a0 13 i ≠ 0; omega))]
                             rw [show (updI (a0 4) (s0 6) 0) i = a0 4 i by unfold updI; rw [if_neg (by omega)], txN_l (by omega) (by omega)]
                             rw [show txL (a0 4 i) = 73 from by unfold txL; repeat' split; all_goals omega]
                             try dsimp only
                             simp only [List.append_assoc, List.cons_append, List.nil_append, List.append_nil]
                           rw [← e9] at t368
                           exact ih (i + 1) s368_ a368_ (by omega) (by omega) fs368 fa368 t368 kk (by omega))
                    · skip
                      show pm_E _ _ _ 308 [(0, .ref 18), (1, .int (iI i)), (2, .int (iI ((a357_ 4) (i))))] [.ref 18] _ _ _ _
                      refine pm_e_sim pm_a169_308 rfl ?_
                      refine pm_e_top (y := iI 75) (by decide +kernel) ?_
                      show pm_E _ _ _ 310 [(0, .ref 18), (1, .int (iI i)), (2, .int (iI ((a357_ 4) (i))))] [.int (iI 75), .ref 18] _ _ _ _
                      refine pm_e_goto pm_a169_310 rfl ?_
                      show pm_E _ _ _ 335 [(0, .ref 18), (1, .int (iI i)), (2, .int (iI ((a357_ 4) (i))))] [.int (iI 75), .ref 18] _ _ _ _
                      refine pm_i_callv (k := 18) (T2 := pm_mm172) pm_a169_335 rfl rfl rfl (mh_get (j := 0) hA rfl) ⟨Nat.le_of_ble_eq_true rfl, Nat.le_of_ble_eq_true rfl, rfl, by decide +kernel⟩ ?_
                      show pm_E none _ _ 0 [(0, .ref 18), (1, .int (iI 75))] [] _ _ _ _
                      refine M_sayT (X := (((Y ++ List.replicate (a0 14 i).toNat 41) ++ [32]) ++ [40])) hA t357 (by first | omega | (simp only [List.length_append, List.length_cons, List.length_nil, List.length_replicate]; omega)) (fun s369_ a369_ gs369 ga369 t369 => ?_)
                      have fs369 : ∀ j, j ≠ 23 → s369_ j = s0 j := fun j hj => (gs369 j hj).trans (fs357 j hj)
                      have fa369 : ∀ j, j ≠ 11 → a369_ j = a0 j := fun j hj => (ga369 j hj).trans (fa357 j hj)
                      have y4_369 : a369_ 4 i = a0 4 i := by rw [fa369 4 (by omega)]
                      have y5_369 : a369_ 5 i = a0 5 i := by rw [fa369 5 (by omega)]
                      have y13_369 : a369_ 13 i = a0 13 i := by rw [fa369 13 (by omega)]
                      have y6_369 : s369_ 6 = s0 6 := fs369 6 (by omega)
                      show pm_E _ _ _ 338 [(0, .ref 18), (1, .int (iI i)), (2, .int (iI ((a357_ 4) (i))))] [] _ _ _ _
                      refine pm_e_inc (y := iI (i + 1)) pm_a169_338 rfl (iI_add _ _) (by decide +kernel) rfl ?_
                      show pm_E _ _ _ 341 [(0, .ref 18), (1, .int (iI (i + 1))), (2, .int (iI ((a357_ 4) (i))))] [] _ _ _ _
                      refine pm_e_goto pm_a169_341 rfl ?_
                      show pm_E _ _ _ 151 [(0, .ref 18), (1, .int (iI (i + 1))), (2, .int (iI ((a357_ 4) (i))))] [] _ _ _ _
                      show pm_E _ _ _ 151 ([(0, .ref 18), (1, .int (iI (i + 1)))] ++ [(2, .int (iI ((a357_ 4) (i))))]) [] _ _ _ _
                      refine pm_e_more [(2, .int (iI ((a357_ 4) (i))))] (show ([0, 1, 2] : List Nat).Nodup from by decide) ?_
                      first
                      | (exfalso; omega)
                      | (skip
                         have e9 : sq3 (updI (a0 4) (s0 6) 0) (a0 5) (a0 12, a0 13, a0 14) (i + 1).toNat 0 = ((((Y ++ List.replicate (a0 14 i).toNat 41) ++ [32]) ++ [40]) ++ [75]) := by
                           rw [show (i + 1).toNat = i.toNat + 1 by omega, sq3_snoc, show (0 : Int) + (i.toNat : Int) = i by omega, hYe]
                           rw [gp3_e (u := [32]) (v := [40]) (if_pos (by show a0 12 i ≠ 0; omega)) (if_pos (by show a0 13 i ≠ 0; omega))]
                           rw [show (updI (a0 4) (s0 6) 0) i = a0 4 i by unfold updI; rw [if_neg (by omega)], txN_l (by omega) (by omega)]
                           rw [show txL (a0 4 i) = 75 from by unfold txL; repeat' split; all_goals omega]
                           try dsimp only
                           simp only [List.append_assoc, List.cons_append, List.nil_append, List.append_nil]
                         rw [← e9] at t369
                         exact ih (i + 1) s369_ a369_ (by omega) (by omega) fs369 fa369 t369 kk (by omega))
                  · skip
                    show pm_E _ _ _ 298 [(0, .ref 18), (1, .int (iI i)), (2, .int (iI ((a357_ 4) (i))))] [.ref 18] _ _ _ _
                    refine pm_e_sim pm_a169_298 rfl ?_
                    refine pm_e_top (y := iI 83) (by decide +kernel) ?_
                    show pm_E _ _ _ 300 [(0, .ref 18), (1, .int (iI i)), (2, .int (iI ((a357_ 4) (i))))] [.int (iI 83), .ref 18] _ _ _ _
                    refine pm_e_goto pm_a169_300 rfl ?_
                    show pm_E _ _ _ 335 [(0, .ref 18), (1, .int (iI i)), (2, .int (iI ((a357_ 4) (i))))] [.int (iI 83), .ref 18] _ _ _ _
                    refine pm_i_callv (k := 18) (T2 := pm_mm172) pm_a169_335 rfl rfl rfl (mh_get (j := 0) hA rfl) ⟨Nat.le_of_ble_eq_true rfl, Nat.le_of_ble_eq_true rfl, rfl, by decide +kernel⟩ ?_
                    show pm_E none _ _ 0 [(0, .ref 18), (1, .int (iI 83))] [] _ _ _ _
                    refine M_sayT (X := (((Y ++ List.replicate (a0 14 i).toNat 41) ++ [32]) ++ [40])) hA t357 (by first | omega | (simp only [List.length_append, List.length_cons, List.length_nil, List.length_replicate]; omega)) (fun s370_ a370_ gs370 ga370 t370 => ?_)
                    have fs370 : ∀ j, j ≠ 23 → s370_ j = s0 j := fun j hj => (gs370 j hj).trans (fs357 j hj)
                    have fa370 : ∀ j, j ≠ 11 → a370_ j = a0 j := fun j hj => (ga370 j hj).trans (fa357 j hj)
                    have y4_370 : a370_ 4 i = a0 4 i := by rw [fa370 4 (by omega)]
                    have y5_370 : a370_ 5 i = a0 5 i := by rw [fa370 5 (by omega)]
                    have y13_370 : a370_ 13 i = a0 13 i := by rw [fa370 13 (by omega)]
                    have y6_370 : s370_ 6 = s0 6 := fs370 6 (by omega)
                    show pm_E _ _ _ 338 [(0, .ref 18), (1, .int (iI i)), (2, .int (iI ((a357_ 4) (i))))] [] _ _ _ _
                    refine pm_e_inc (y := iI (i + 1)) pm_a169_338 rfl (iI_add _ _) (by decide +kernel) rfl ?_
                    show pm_E _ _ _ 341 [(0, .ref 18), (1, .int (iI (i + 1))), (2, .int (iI ((a357_ 4) (i))))] [] _ _ _ _
                    refine pm_e_goto pm_a169_341 rfl ?_
                    show pm_E _ _ _ 151 [(0, .ref 18), (1, .int (iI (i + 1))), (2, .int (iI ((a357_ 4) (i))))] [] _ _ _ _
                    show pm_E _ _ _ 151 ([(0, .ref 18), (1, .int (iI (i + 1)))] ++ [(2, .int (iI ((a357_ 4) (i))))]) [] _ _ _ _
                    refine pm_e_more [(2, .int (iI ((a357_ 4) (i))))] (show ([0, 1, 2] : List Nat).Nodup from by decide) ?_
                    first
                    | (exfalso; omega)
                    | (skip
                       have e9 : sq3 (updI (a0 4) (s0 6) 0) (a0 5) (a0 12, a0 13, a0 14) (i + 1).toNat 0 = ((((Y ++ List.replicate (a0 14 i).toNat 41) ++ [32]) ++ [40]) ++ [83]) := by
                         rw [show (i + 1).toNat = i.toNat + 1 by omega, sq3_snoc, show (0 : Int) + (i.toNat : Int) = i by omega, hYe]
                         rw [gp3_e (u := [32]) (v := [40]) (if_pos (by show a0 12 i ≠ 0; omega)) (if_pos (by show a0 13 i ≠ 0; omega))]
                         rw [show (updI (a0 4) (s0 6) 0) i = a0 4 i by unfold updI; rw [if_neg (by omega)], txN_l (by omega) (by omega)]
                         rw [show txL (a0 4 i) = 83 from by unfold txL; repeat' split; all_goals omega]
                         try dsimp only
                         simp only [List.append_assoc, List.cons_append, List.nil_append, List.append_nil]
                       rw [← e9] at t370
                       exact ih (i + 1) s370_ a370_ (by omega) (by omega) fs370 fa370 t370 kk (by omega))
              · skip
                show pm_E _ _ _ 268 [(0, .ref 18), (1, .int (iI i)), (2, .int (iI ((a357_ 4) (i))))] [] _ _ _ _
                refine pm_e_sim pm_a169_268 rfl ?_
                show pm_E _ _ _ 269 [(0, .ref 18), (1, .int (iI i)), (2, .int (iI ((a357_ 4) (i))))] [.ref 18] _ _ _ _
                refine pm_e_sim pm_a169_269 rfl ?_
                show pm_E _ _ _ 270 [(0, .ref 18), (1, .int (iI i)), (2, .int (iI ((a357_ 4) (i))))] [.ref 18, .ref 18] _ _ _ _
                refine pm_i_get pm_a169_270 rfl (mh_get (j := 0) hA rfl) rfl ?_
                show pm_E _ _ _ 273 [(0, .ref 18), (1, .int (iI i)), (2, .int (iI ((a357_ 4) (i))))] [.ref 23, .ref 18] _ _ _ _
                refine pm_e_sim pm_a169_273 rfl ?_
                show pm_E _ _ _ 274 [(0, .ref 18), (1, .int (iI i)), (2, .int (iI ((a357_ 4) (i))))] [.int (iI i), .ref 23, .ref 18] _ _ _ _
                refine pm_i_ald pm_a169_274 (mh_get (j := 5) hA rfl) (by omega) (by omega) ⟨by omega, by omega⟩ ?_
                show pm_E _ _ _ 275 [(0, .ref 18), (1, .int (iI i)), (2, .int (iI ((a357_ 4) (i))))] [.int (iI ((a357_ 5) (i))), .ref 18] _ _ _ _
                refine pm_e_sim pm_a169_275 rfl ?_
                refine pm_e_top (y := iI 1) (by decide +kernel) ?_
                show pm_E _ _ _ 276 [(0, .ref 18), (1, .int (iI i)), (2, .int (iI ((a357_ 4) (i))))] [.int (iI 1), .int (iI ((a357_ 5) (i))), .ref 18] _ _ _ _
                refine pm_e_sim pm_a169_276 rfl ?_
                refine pm_e_top (y := iI ((a357_ 5) (i) - 1)) (iI_sub _ _) ?_
                show pm_E _ _ _ 277 [(0, .ref 18), (1, .int (iI i)), (2, .int (iI ((a357_ 4) (i))))] [.int (iI ((a357_ 5) (i) - 1)), .ref 18] _ _ _ _
                refine pm_e_sim pm_a169_277 rfl ?_
                show pm_E _ _ _ 278 [(0, .ref 18), (1, .int (iI i)), (2, .int (iI ((a357_ 4) (i))))] [.int (iI ((a357_ 4) (i))), .int (iI ((a357_ 5) (i) - 1)), .ref 18] _ _ _ _
                refine pm_e_sim pm_a169_278 rfl ?_
                refine pm_e_top (y := iI 10) (by decide +kernel) ?_
                show pm_E _ _ _ 280 [(0, .ref 18), (1, .int (iI i)), (2, .int (iI ((a357_ 4) (i))))] [.int (iI 10), .int (iI ((a357_ 4) (i))), .int (iI ((a357_ 5) (i) - 1)), .ref 18] _ _ _ _
                refine pm_e_sim pm_a169_280 rfl ?_
                refine pm_e_top (y := iI ((a357_ 4) (i) - 10)) (iI_sub _ _) ?_
                show pm_E _ _ _ 281 [(0, .ref 18), (1, .int (iI i)), (2, .int (iI ((a357_ 4) (i))))] [.int (iI ((a357_ 4) (i) - 10)), .int (iI ((a357_ 5) (i) - 1)), .ref 18] _ _ _ _
                refine pm_e_sim pm_a169_281 rfl ?_
                refine pm_e_top (y := iI ((a357_ 5) (i) - 1 - ((a357_ 4) (i) - 10))) (iI_sub _ _) ?_
                show pm_E _ _ _ 282 [(0, .ref 18), (1, .int (iI i)), (2, .int (iI ((a357_ 4) (i))))] [.int (iI ((a357_ 5) (i) - 1 - ((a357_ 4) (i) - 10))), .ref 18] _ _ _ _
                refine pm_i_callv (k := 18) (T2 := pm_mm173) pm_a169_282 rfl rfl rfl (mh_get (j := 0) hA rfl) ⟨Nat.le_of_ble_eq_true rfl, Nat.le_of_ble_eq_true rfl, rfl, by decide +kernel⟩ ?_
                show pm_E none _ _ 0 [(0, .ref 18), (1, .int (iI ((a357_ 5) (i) - 1 - ((a357_ 4) (i) - 10))))] [] _ _ _ _
                have nl371 := nmC_len ((a357_ 5) (i) - 1 - ((a357_ 4) (i) - 10))
                refine M_sayName (X := (((Y ++ List.replicate (a0 14 i).toNat 41) ++ [32]) ++ [40])) hA (by omega) (by omega) t357 (by first | omega | (simp only [List.length_append, List.length_cons, List.length_nil, List.length_replicate]; omega)) (fun s371_ a371_ gs371 ga371 t371 => ?_)
                have fs371 : ∀ j, j ≠ 23 → s371_ j = s0 j := fun j hj => (gs371 j hj).trans (fs357 j hj)
                have fa371 : ∀ j, j ≠ 11 → a371_ j = a0 j := fun j hj => (ga371 j hj).trans (fa357 j hj)
                have y4_371 : a371_ 4 i = a0 4 i := by rw [fa371 4 (by omega)]
                have y5_371 : a371_ 5 i = a0 5 i := by rw [fa371 5 (by omega)]
                have y13_371 : a371_ 13 i = a0 13 i := by rw [fa371 13 (by omega)]
                have y6_371 : s371_ 6 = s0 6 := fs371 6 (by omega)
                show pm_E _ _ _ 285 [(0, .ref 18), (1, .int (iI i)), (2, .int (iI ((a357_ 4) (i))))] [] _ _ _ _
                refine pm_e_goto pm_a169_285 rfl ?_
                show pm_E _ _ _ 338 [(0, .ref 18), (1, .int (iI i)), (2, .int (iI ((a357_ 4) (i))))] [] _ _ _ _
                refine pm_e_inc (y := iI (i + 1)) pm_a169_338 rfl (iI_add _ _) (by decide +kernel) rfl ?_
                show pm_E _ _ _ 341 [(0, .ref 18), (1, .int (iI (i + 1))), (2, .int (iI ((a357_ 4) (i))))] [] _ _ _ _
                refine pm_e_goto pm_a169_341 rfl ?_
                show pm_E _ _ _ 151 [(0, .ref 18), (1, .int (iI (i + 1))), (2, .int (iI ((a357_ 4) (i))))] [] _ _ _ _
                show pm_E _ _ _ 151 ([(0, .ref 18), (1, .int (iI (i + 1)))] ++ [(2, .int (iI ((a357_ 4) (i))))]) [] _ _ _ _
                refine pm_e_more [(2, .int (iI ((a357_ 4) (i))))] (show ([0, 1, 2] : List Nat).Nodup from by decide) ?_
                first
                | (exfalso; omega)
                | (skip
                   have e9 : sq3 (updI (a0 4) (s0 6) 0) (a0 5) (a0 12, a0 13, a0 14) (i + 1).toNat 0 = ((((Y ++ List.replicate (a0 14 i).toNat 41) ++ [32]) ++ [40]) ++ nmC ((a357_ 5) (i) - 1 - ((a357_ 4) (i) - 10))) := by
                     rw [show (i + 1).toNat = i.toNat + 1 by omega, sq3_snoc, show (0 : Int) + (i.toNat : Int) = i by omega, hYe]
                     rw [gp3_e (u := [32]) (v := [40]) (if_pos (by show a0 12 i ≠ 0; omega)) (if_pos (by show a0 13 i ≠ 0; omega))]
                     rw [show (updI (a0 4) (s0 6) 0) i = a0 4 i by unfold updI; rw [if_neg (by omega)], txN_v (by omega)]
                     rw [show a0 5 i - 1 - (a0 4 i - 10) = (a357_ 5) (i) - 1 - ((a357_ 4) (i) - 10) from by omega]
                     try dsimp only
                     simp only [List.append_assoc, List.cons_append, List.nil_append, List.append_nil]
                   rw [← e9] at t371
                   exact ih (i + 1) s371_ a371_ (by omega) (by omega) fs371 fa371 t371 kk (by omega))
            · skip
              show pm_E _ _ _ 237 [(0, .ref 18), (1, .int (iI i)), (2, .int (iI ((a357_ 4) (i))))] [] _ _ _ _
              refine pm_e_sim pm_a169_237 rfl ?_
              show pm_E _ _ _ 238 [(0, .ref 18), (1, .int (iI i)), (2, .int (iI ((a357_ 4) (i))))] [.ref 18] _ _ _ _
              refine pm_e_sim pm_a169_238 rfl ?_
              refine pm_e_top (y := iI 92) (by decide +kernel) ?_
              show pm_E _ _ _ 240 [(0, .ref 18), (1, .int (iI i)), (2, .int (iI ((a357_ 4) (i))))] [.int (iI 92), .ref 18] _ _ _ _
              refine pm_i_callv (k := 18) (T2 := pm_mm172) pm_a169_240 rfl rfl rfl (mh_get (j := 0) hA rfl) ⟨Nat.le_of_ble_eq_true rfl, Nat.le_of_ble_eq_true rfl, rfl, by decide +kernel⟩ ?_
              show pm_E none _ _ 0 [(0, .ref 18), (1, .int (iI 92))] [] _ _ _ _
              refine M_sayT (X := (((Y ++ List.replicate (a0 14 i).toNat 41) ++ [32]) ++ [40])) hA t357 (by first | omega | (simp only [List.length_append, List.length_cons, List.length_nil, List.length_replicate]; omega)) (fun s372_ a372_ gs372 ga372 t372 => ?_)
              have fs372 : ∀ j, j ≠ 23 → s372_ j = s0 j := fun j hj => (gs372 j hj).trans (fs357 j hj)
              have fa372 : ∀ j, j ≠ 11 → a372_ j = a0 j := fun j hj => (ga372 j hj).trans (fa357 j hj)
              have y4_372 : a372_ 4 i = a0 4 i := by rw [fa372 4 (by omega)]
              have y5_372 : a372_ 5 i = a0 5 i := by rw [fa372 5 (by omega)]
              have y13_372 : a372_ 13 i = a0 13 i := by rw [fa372 13 (by omega)]
              have y6_372 : s372_ 6 = s0 6 := fs372 6 (by omega)
              show pm_E _ _ _ 243 [(0, .ref 18), (1, .int (iI i)), (2, .int (iI ((a357_ 4) (i))))] [] _ _ _ _
              refine pm_e_sim pm_a169_243 rfl ?_
              show pm_E _ _ _ 244 [(0, .ref 18), (1, .int (iI i)), (2, .int (iI ((a357_ 4) (i))))] [.ref 18] _ _ _ _
              refine pm_e_sim pm_a169_244 rfl ?_
              show pm_E _ _ _ 245 [(0, .ref 18), (1, .int (iI i)), (2, .int (iI ((a357_ 4) (i))))] [.ref 18, .ref 18] _ _ _ _
              refine pm_i_get pm_a169_245 rfl (mh_get (j := 0) hA rfl) rfl ?_
              show pm_E _ _ _ 248 [(0, .ref 18), (1, .int (iI i)), (2, .int (iI ((a357_ 4) (i))))] [.ref 23, .ref 18] _ _ _ _
              refine pm_e_sim pm_a169_248 rfl ?_
              show pm_E _ _ _ 249 [(0, .ref 18), (1, .int (iI i)), (2, .int (iI ((a357_ 4) (i))))] [.int (iI i), .ref 23, .ref 18] _ _ _ _
              refine pm_i_ald pm_a169_249 (mh_get (j := 5) hA rfl) (by omega) (by omega) ⟨by omega, by omega⟩ ?_
              show pm_E _ _ _ 250 [(0, .ref 18), (1, .int (iI i)), (2, .int (iI ((a357_ 4) (i))))] [.int (iI ((a372_ 5) (i))), .ref 18] _ _ _ _
              refine pm_i_callv (k := 18) (T2 := pm_mm173) pm_a169_250 rfl rfl rfl (mh_get (j := 0) hA rfl) ⟨Nat.le_of_ble_eq_true rfl, Nat.le_of_ble_eq_true rfl, rfl, by decide +kernel⟩ ?_
              show pm_E none _ _ 0 [(0, .ref 18), (1, .int (iI ((a372_ 5) (i))))] [] _ _ _ _
              have nl373 := nmC_len ((a372_ 5) (i))
              refine M_sayName (X := ((((Y ++ List.replicate (a0 14 i).toNat 41) ++ [32]) ++ [40]) ++ [92])) hA (by omega) (by omega) t372 (by first | omega | (simp only [List.length_append, List.length_cons, List.length_nil, List.length_replicate]; omega)) (fun s373_ a373_ gs373 ga373 t373 => ?_)
              have fs373 : ∀ j, j ≠ 23 → s373_ j = s0 j := fun j hj => (gs373 j hj).trans (fs372 j hj)
              have fa373 : ∀ j, j ≠ 11 → a373_ j = a0 j := fun j hj => (ga373 j hj).trans (fa372 j hj)
              have y4_373 : a373_ 4 i = a0 4 i := by rw [fa373 4 (by omega)]
              have y5_373 : a373_ 5 i = a0 5 i := by rw [fa373 5 (by omega)]
              have y13_373 : a373_ 13 i = a0 13 i := by rw [fa373 13 (by omega)]
              have y6_373 : s373_ 6 = s0 6 := fs373 6 (by omega)
              show pm_E _ _ _ 253 [(0, .ref 18), (1, .int (iI i)), (2, .int (iI ((a357_ 4) (i))))] [] _ _ _ _
              refine pm_e_sim pm_a169_253 rfl ?_
              show pm_E _ _ _ 254 [(0, .ref 18), (1, .int (iI i)), (2, .int (iI ((a357_ 4) (i))))] [.ref 18] _ _ _ _
              refine pm_e_sim pm_a169_254 rfl ?_
              refine pm_e_top (y := iI 46) (by decide +kernel) ?_
              show pm_E _ _ _ 256 [(0, .ref 18), (1, .int (iI i)), (2, .int (iI ((a357_ 4) (i))))] [.int (iI 46), .ref 18] _ _ _ _
              refine pm_i_callv (k := 18) (T2 := pm_mm172) pm_a169_256 rfl rfl rfl (mh_get (j := 0) hA rfl) ⟨Nat.le_of_ble_eq_true rfl, Nat.le_of_ble_eq_true rfl, rfl, by decide +kernel⟩ ?_
              show pm_E none _ _ 0 [(0, .ref 18), (1, .int (iI 46))] [] _ _ _ _
              refine M_sayT (X := (((((Y ++ List.replicate (a0 14 i).toNat 41) ++ [32]) ++ [40]) ++ [92]) ++ nmC ((a372_ 5) (i)))) hA t373 (by first | omega | (simp only [List.length_append, List.length_cons, List.length_nil, List.length_replicate]; omega)) (fun s374_ a374_ gs374 ga374 t374 => ?_)
              have fs374 : ∀ j, j ≠ 23 → s374_ j = s0 j := fun j hj => (gs374 j hj).trans (fs373 j hj)
              have fa374 : ∀ j, j ≠ 11 → a374_ j = a0 j := fun j hj => (ga374 j hj).trans (fa373 j hj)
              have y4_374 : a374_ 4 i = a0 4 i := by rw [fa374 4 (by omega)]
              have y5_374 : a374_ 5 i = a0 5 i := by rw [fa374 5 (by omega)]
              have y13_374 : a374_ 13 i = a0 13 i := by rw [fa374 13 (by omega)]
              have y6_374 : s374_ 6 = s0 6 := fs374 6 (by omega)
              show pm_E _ _ _ 259 [(0, .ref 18), (1, .int (iI i)), (2, .int (iI ((a357_ 4) (i))))] [] _ _ _ _
              refine pm_e_goto pm_a169_259 rfl ?_
              show pm_E _ _ _ 338 [(0, .ref 18), (1, .int (iI i)), (2, .int (iI ((a357_ 4) (i))))] [] _ _ _ _
              refine pm_e_inc (y := iI (i + 1)) pm_a169_338 rfl (iI_add _ _) (by decide +kernel) rfl ?_
              show pm_E _ _ _ 341 [(0, .ref 18), (1, .int (iI (i + 1))), (2, .int (iI ((a357_ 4) (i))))] [] _ _ _ _
              refine pm_e_goto pm_a169_341 rfl ?_
              show pm_E _ _ _ 151 [(0, .ref 18), (1, .int (iI (i + 1))), (2, .int (iI ((a357_ 4) (i))))] [] _ _ _ _
              show pm_E _ _ _ 151 ([(0, .ref 18), (1, .int (iI (i + 1)))] ++ [(2, .int (iI ((a357_ 4) (i))))]) [] _ _ _ _
              refine pm_e_more [(2, .int (iI ((a357_ 4) (i))))] (show ([0, 1, 2] : List Nat).Nodup from by decide) ?_
              first
              | (exfalso; omega)
              | (skip
                 have e9 : sq3 (updI (a0 4) (s0 6) 0) (a0 5) (a0 12, a0 13, a0 14) (i + 1).toNat 0 = ((((((Y ++ List.replicate (a0 14 i).toNat 41) ++ [32]) ++ [40]) ++ [92]) ++ nmC ((a372_ 5) (i))) ++ [46]) := by
                   rw [show (i + 1).toNat = i.toNat + 1 by omega, sq3_snoc, show (0 : Int) + (i.toNat : Int) = i by omega, hYe]
                   rw [gp3_e (u := [32]) (v := [40]) (if_pos (by show a0 12 i ≠ 0; omega)) (if_pos (by show a0 13 i ≠ 0; omega))]
                   rw [show (updI (a0 4) (s0 6) 0) i = 1 by unfold updI; rw [if_neg (by omega)]; omega, txN_1, show a0 5 i = (a372_ 5) (i) from by omega]
                   try dsimp only
                   simp only [List.append_assoc, List.cons_append, List.nil_append, List.append_nil]
                 rw [← e9] at t374
                 exact ih (i + 1) s374_ a374_ (by omega) (by omega) fs374 fa374 t374 kk (by omega))
theorem tm_hd {g : Int → Int} {f : Nat} {k p e : Int} (t : tm g f k p e) : g p = 0 ∨ g p = 1 ∨ (2 ≤ g p ∧ (g p ≤ 6 ∨ 10 ≤ g p)) := by
  cases f with
  | zero => exact t.elim
  | succ f =>
    rcases t with ⟨h, _⟩ | ⟨h, _⟩ | ⟨h, h1, _⟩
    · exact Or.inl h
    · exact Or.inr (Or.inl h)
    · exact Or.inr (Or.inr ⟨h, by omega⟩)
set_option maxHeartbeats 4000000 in
set_option maxRecDepth 100000 in
theorem M_sayTerm {d : Nat} {A B : List va_E} {s : Nat → Int} {vl : Int64} {a : Nat → Int → Int} {nm : Nat → Int64} {Q : Option Value → List va_E → Nat → Nat → Prop} {ff : Nat} {l : List Int} (hA : A.length = 18) (h6 : 1 ≤ s 6) (h61 : s 6 ≤ 500) (hr : ∀ j, in32 (a 4 j)) (hb : ∀ j, in32 (a 12 j)) (ho : ∀ j, in32 (a 13 j)) (ht : tm (a 4) ff 0 0 (s 6)) (htx : txt (a 4) ff 0 0 (s 6) l) (k : ∀ s' a', (∀ j, j ≠ 23 → s' j = s j) → (∀ j, j ≠ 11 → j ≠ 5 → j ≠ 6 → j ≠ 12 → j ≠ 13 → j ≠ 14 → a' j = a j) → TXs s' a' l → Q none (mh A s' vl a' nm B) 0 0) : pm_E none (d + 2) pm_mm169 0 [(0, .ref 18)] [] (mh A s vl a nm B) 0 0 Q := by
  refine pm_e_sim pm_a169_0 rfl ?_
  refine pm_e_top (y := iI 0) (by decide +kernel) ?_
  show pm_E _ _ _ 1 [(0, .ref 18)] [.int (iI 0)] _ _ _ _
  refine pm_e_sim pm_a169_1 rfl ?_
  show pm_E _ _ _ 2 [(0, .ref 18), (1, .int (iI 0))] [] _ _ _ _
  refine M_sayTerm_1 (a0 := a) hA (by omega) (by omega) (s 6 + 2).toNat 0 a (by omega) (by omega) (fun j _ _ _ => rfl) hb ho (fun j z y => by omega) ?_ (by omega)
  intro a1 fA1 hb1 ho1 hc1 i1
  refine pm_e_sim pm_a169_37 rfl ?_
  refine pm_e_top (y := iI 0) (by decide +kernel) ?_
  show pm_E _ _ _ 38 [(0, .ref 18), (1, .int (iI i1))] [.int (iI 0)] _ _ _ _
  refine pm_e_sim pm_a169_38 rfl ?_
  show pm_E _ _ _ 39 [(0, .ref 18), (1, .int (iI 0))] [] _ _ _ _
  refine M_sayTerm_2 (a0 := a) (X0 := (a1 12, a1 13, a1 14)) hA (by omega) (by omega) ht hr (s 6 + 1).toNat 0 a1 (by omega) (by omega) fA1 hb1 ho1 (fun j z y => by have := (hc1 j z y).2.2; omega) rfl ?_ (by omega)
  intro a2 fA2 hb2 ho2 hc2 hal p2
  refine pm_e_sim pm_a169_139 rfl ?_
  show pm_E _ _ _ 140 [(0, .ref 18), (1, .int (iI p2))] [.ref 18] _ _ _ _
  refine pm_e_sim pm_a169_140 rfl ?_
  refine pm_e_top (y := iI 0) (by decide +kernel) ?_
  show pm_E _ _ _ 141 [(0, .ref 18), (1, .int (iI p2))] [.int (iI 0), .ref 18] _ _ _ _
  refine pm_i_callv (k := 18) (T2 := pm_mm171) pm_a169_141 rfl rfl rfl (mh_get (j := 0) hA rfl) ⟨Nat.le_of_ble_eq_true rfl, Nat.le_of_ble_eq_true rfl, rfl, by decide +kernel⟩ ?_
  show pm_E none _ _ 0 [(0, .ref 18), (1, .int (iI 0))] [] _ _ _ _
  have g4 : a2 4 = a 4 := fA2 4 (by omega) (by omega) (by omega)
  refine M_depT hA (by rw [g4]; exact hr) (by rw [g4]; exact ht) (by omega) (by omega) (fun P D _ dD => ?_)
  rw [g4] at dD
  have dI := dp_in dD
  show pm_E _ _ _ 144 [(0, .ref 18), (1, .int (iI p2))] [] _ _ _ _
  refine pm_e_sim pm_a169_144 rfl ?_
  show pm_E _ _ _ 145 [(0, .ref 18), (1, .int (iI p2))] [.ref 18] _ _ _ _
  refine pm_e_sim pm_a169_145 rfl ?_
  refine pm_e_top (y := iI 0) (by decide +kernel) ?_
  show pm_E _ _ _ 146 [(0, .ref 18), (1, .int (iI p2))] [.int (iI 0), .ref 18] _ _ _ _
  refine pm_i_put pm_a169_146 rfl (mh_get (j := 0) hA rfl) rfl (Nat.le_of_ble_eq_true rfl) (Or.inl rfl) (mw_23 hA _) ?_
  show pm_E _ _ _ 149 [(0, .ref 18), (1, .int (iI p2))] [] _ _ _ _
  refine pm_e_sim pm_a169_149 rfl ?_
  refine pm_e_top (y := iI 0) (by decide +kernel) ?_
  show pm_E _ _ _ 150 [(0, .ref 18), (1, .int (iI p2))] [.int (iI 0)] _ _ _ _
  refine pm_e_sim pm_a169_150 rfl ?_
  show pm_E _ _ _ 151 [(0, .ref 18), (1, .int (iI 0))] [] _ _ _ _
  have hAR := al3_AR ht (by rw [show s 6 - 0 = s 6 by omega]; exact hal)
  obtain ⟨_, hN⟩ := AR3_n hAR
  have hsq := txt_sq (W := (a2 12, a2 13, a2 14)) htx dD hAR (fun q _ _ => ⟨rfl, rfl, rfl⟩) (fun q z y => hc1 q (by omega) (by omega))
  rw [show s 6 - 0 = s 6 by omega] at hsq
  have z0 := hc1 0 (by omega) (by omega)
  have zn := hc1 (s 6) (by omega) (by omega)
  have hg0 : gp3 (a2 12, a2 13, a2 14) 0 = [] := by
    obtain ⟨n1, n2, n3, _⟩ := hN 0
    unfold gp3
    rw [n1 (by omega), n2 (by omega), n3 (by omega)]
    show List.replicate (a1 14 0).toNat 41 ++ (if a1 12 0 ≠ 0 then [32] else []) ++ (if a1 13 0 ≠ 0 then [40] else []) = []
    rw [z0.1, z0.2.1, z0.2.2]
    rfl
  have hgn : gp3 (a2 12, a2 13, a2 14) (s 6) = List.replicate (a2 14 (s 6) - a1 14 (s 6)).toNat 41 := by
    obtain ⟨n1, n2, _, _⟩ := hN (s 6)
    unfold gp3
    rw [n1 (by omega), n2 (by omega)]
    show List.replicate (a2 14 (s 6)).toNat 41 ++ (if a1 12 (s 6) ≠ 0 then [32] else []) ++ (if a1 13 (s 6) ≠ 0 then [40] else []) = _
    rw [zn.1, zn.2.1, zn.2.2, Int.sub_zero]
    show _ ++ [] ++ [] = _
    rw [List.append_nil, List.append_nil]
  have hfin : sq3 (updI (a 4) (s 6) 0) D (a2 12, a2 13, a2 14) ((s 6).toNat + 1) 0 = l := by
    rw [sq3_snoc, show (0 : Int) + ((s 6).toNat : Int) = s 6 by omega, sq3_cg (g := a 4) (fun j z y => updI_n _ _ (by omega)), hgn, updI_s, txN_0, List.append_nil]
    rw [hg0, List.nil_append] at hsq
    exact hsq
  have hll := txt_len htx
  refine M_sayTerm_3 (s0 := updS s 23 0) (a0 := updA (updA a2 5 D) 6 P) hA (by show 0 ≤ s 6; omega) (by show s 6 ≤ 500; omega) (by show ∀ j, in32 (a2 4 j); rw [g4]; exact hr) hb2 ho2 (fun j z y => by have := dI j z y; show 0 ≤ D j ∧ D j ≤ 1000; replace y : j < s 6 := y; omega) (fun j z y c9 => ?_) (fun j z y => ?_) hc2 (fun j z y => ?_) (s 6 + 2).toNat 0 _ _ (by omega) (by show (0 : Int) ≤ s 6 + 1; omega) (fun j _ => rfl) (fun j _ => rfl) ⟨rfl, rfl⟩ ?_ (by show s 6 + 1 - 0 < _; omega)
  · have c8 : 9 < a2 4 j := c9
    rw [g4] at c8
    show a2 4 j < 10 + D j
    rw [g4]
    exact dp_var ht dD j z y c8
  · show 0 ≤ a2 4 j ∧ (a2 4 j ≤ 6 ∨ 9 < a2 4 j)
    rw [g4]
    obtain ⟨f2, k2, e2, t2, _⟩ := tm_sub ht j z y
    rcases tm_hd t2 with h | h | h <;> omega
  · show (sq3 (updI (a2 4) (s 6) 0) D (a2 12, a2 13, a2 14) (j.toNat + 1) 0).length ≤ 3000
    rw [g4]
    have h9 := sq3_le (g := (updI (a 4) (s 6) 0)) (D := D) (W := (a2 12, a2 13, a2 14)) (i := j.toNat + 1) (n := (s 6).toNat + 1) (by replace y : j ≤ s 6 := y; omega)
    rw [hfin] at h9
    omega
  intro s3 a3 fS3 fA3 hT3
  have hT4 : TXs s3 a3 (sq3 (updI (a2 4) (s 6) 0) D (a2 12, a2 13, a2 14) ((s 6).toNat + 1) 0) := hT3
  rw [g4, hfin] at hT4
  refine k s3 a3 (fun j hj => by rw [fS3 j hj]; simp [updS, hj]) (fun j j1 j2 j3 j4 j5 j6 => by rw [fA3 j j1]; simp [updA, j2, j3, fA2 j j4 j5 j6]) hT4
/-- the i-th byte of the text l -/
def ltR (l : List Int) (i r : Int) : Prop := (0 ≤ i ∧ i ≤ l.length ∧ r = l.getD i.toNat 0) ∨ ((i < 0 ∨ (l.length : Int) < i) ∧ r = -1)
theorem getD_len : ∀ (l : List Int), l.getD l.length 0 = 0
  | [] => rfl
  | _ :: r => getD_len r
theorem rg_gD {g : Int → Int} : ∀ {l : List Int} {p : Int}, rg g l.length p = l → ∀ i : Nat, i < l.length → g (p + i) = l.getD i 0
  | [], p, _, i, hi => absurd hi (Nat.not_lt_zero _)
  | x :: r, p, h, i, hi => by
    have h1 : g p = x := (List.cons.inj h).1
    have h2 : rg g r.length (p + 1) = r := (List.cons.inj h).2
    cases i with
    | zero => rw [show p + ((0 : Nat) : Int) = p by omega, h1]; rfl
    | succ i =>
      have h3 := rg_gD h2 i (by simp at hi; omega)
      rw [show p + ((i + 1 : Nat) : Int) = p + 1 + (i : Int) by omega, h3]
      rfl
set_option maxHeartbeats 4000000 in
set_option maxRecDepth 100000 in
theorem M_letter {d : Nat} {A B : List va_E} {s : Nat → Int} {vl : Int64} {a : Nat → Int → Int} {nm : Nat → Int64} {Q : Option Value → List va_E → Nat → Nat → Prop} {n x : Int} {T : Int → List Int} {i : Int} (hA : A.length = 18) (hin : ∀ i j, in32 (a i j)) (hok : okT n T) (hsh : sh s a n T) (hx : in32 x) (hi : in32 i) (kb : (x < 0 ∨ n ≤ x) → Q (some (.int (iI (-1)))) (mh A s vl a nm B) 0 0) (k : 0 ≤ x → x < n → ∀ r s' a', (∃ (g : Int → Int) (f : Nat) (l : List Int), rg g (T x).length 0 = T x ∧ txt g f 0 0 (T x).length l ∧ ltR l i r) → s' 0 = s 0 → (s' 4 = s 4 ∧ s' 45 = s 45 ∧ s' 30 = s 30 ∧ s' 31 = s 31 ∧ s' 13 = s 13) → a' 1 = a 1 → a' 2 = a 2 → a' 3 = a 3 → Q (some (.int (iI r))) (mh A s' vl a' nm B) 0 0) : pm_E none (d + 3) pm_mm167 0 [(0, .ref 18), (1, .int (iI x)), (2, .int (iI i))] [] (mh A s vl a nm B) 0 0 Q := by
  obtain ⟨on0, on1, okk⟩ := id hok
  have s0 := hsh.1
  refine pm_e_sim pm_a167_0 rfl ?_
  show pm_E _ _ _ 1 [(0, .ref 18), (1, .int (iI x)), (2, .int (iI i))] [.ref 18] _ _ _ _
  refine pm_e_sim pm_a167_1 rfl ?_
  show pm_E _ _ _ 2 [(0, .ref 18), (1, .int (iI x)), (2, .int (iI i))] [.int (iI x), .ref 18] _ _ _ _
  refine pm_i_callv (k := 18) (T2 := pm_mm165) pm_a167_2 rfl rfl rfl (mh_get (j := 0) hA rfl) ⟨Nat.le_of_ble_eq_true rfl, Nat.le_of_ble_eq_true rfl, rfl, by decide +kernel⟩ ?_
  show pm_E none _ _ 0 [(0, .ref 18), (1, .int (iI x))] [] _ _ _ _
  refine M_isTerm hA ⟨by omega, by omega⟩ (by omega) (by omega) (fun h_1 => ?_) (fun h_1 => ?_)
  · skip
    show pm_E _ _ _ 5 [(0, .ref 18), (1, .int (iI x)), (2, .int (iI i))] [.int (iI 1)] _ _ _ _
    refine pm_e_ift pm_a167_5 rfl (by decide +kernel) ?_
    show pm_E _ _ _ 10 [(0, .ref 18), (1, .int (iI x)), (2, .int (iI i))] [] _ _ _ _
    refine pm_e_sim pm_a167_10 rfl ?_
    show pm_E _ _ _ 11 [(0, .ref 18), (1, .int (iI x)), (2, .int (iI i))] [.ref 18] _ _ _ _
    refine pm_e_sim pm_a167_11 rfl ?_
    show pm_E _ _ _ 12 [(0, .ref 18), (1, .int (iI x)), (2, .int (iI i))] [.int (iI x), .ref 18] _ _ _ _
    refine pm_i_callv (k := 18) (T2 := pm_mm168) pm_a167_12 rfl rfl rfl (mh_get (j := 0) hA rfl) ⟨Nat.le_of_ble_eq_true rfl, Nat.le_of_ble_eq_true rfl, rfl, by decide +kernel⟩ ?_
    show pm_E none _ _ 0 [(0, .ref 18), (1, .int (iI x))] [] _ _ _ _
    obtain ⟨tl, ft, tt⟩ := hok.2.2 x (by omega) (by omega)
    have tp := tL_pos tt
    have ts := (hsh.2 x (by omega) (by omega)).1
    have tk := sh_take hsh (x := x) (by omega) (by omega)
    refine M_take hA (by omega) (by omega) (by omega) (by omega) (fun s1 a1 es ea => ?_)
    have e6 : s1 6 = (T x).length := by rw [es, ← ts]; rfl
    have t1 : tm (a1 4) ft 0 0 (s1 6) := by rw [e6, ea]; exact tL_tm0 tt tk
    have hr1 : ∀ j, in32 (a1 4 j) := fun j => by rw [ea]; exact cpI_in (hin 4) (hin 2) j
    have g1 : rg (a1 4) (T x).length 0 = T x := by rw [ea]; exact tk
    show pm_E _ _ _ 15 [(0, .ref 18), (1, .int (iI x)), (2, .int (iI i))] [] _ _ _ _
    refine pm_e_sim pm_a167_15 rfl ?_
    show pm_E _ _ _ 16 [(0, .ref 18), (1, .int (iI x)), (2, .int (iI i))] [.ref 18] _ _ _ _
    refine pm_i_callv (k := 18) (T2 := pm_mm169) pm_a167_16 rfl rfl rfl (mh_get (j := 0) hA rfl) ⟨Nat.le_of_ble_eq_true rfl, Nat.le_of_ble_eq_true rfl, rfl, by decide +kernel⟩ ?_
    show pm_E none _ _ 0 [(0, .ref 18)] [] _ _ _ _
    obtain ⟨l, htx⟩ := txt_ex t1
    refine M_sayTerm (l := l) hA (by omega) (by omega) hr1 (fun j => by rw [ea]; exact hin 12 j) (fun j => by rw [ea]; exact hin 13 j) t1 htx (fun s2 a2 fS fA hT2 => ?_)
    have hl23 := hT2.1
    have hll := txt_len htx
    have hgd : ∀ q, 0 ≤ q → q < (l.length : Int) → a2 11 q = l.getD q.toNat 0 := fun q z y => by
      have h9 := rg_gD hT2.2 q.toNat (by omega)
      rw [show (0 : Int) + (q.toNat : Int) = q by omega] at h9
      exact h9
    show pm_E _ _ _ 19 [(0, .ref 18), (1, .int (iI x)), (2, .int (iI i))] [] _ _ _ _
    refine pm_e_sim pm_a167_19 rfl ?_
    show pm_E _ _ _ 20 [(0, .ref 18), (1, .int (iI x)), (2, .int (iI i))] [.int (iI i)] _ _ _ _
    refine pm_e_sim pm_a167_20 rfl ?_
    refine pm_l_top (y := lI (i)) (iI_l ⟨by omega, by omega⟩) ?_
    show pm_E _ _ _ 21 [(0, .ref 18), (1, .int (iI x)), (2, .int (iI i))] [.long (lI i)] _ _ _ _
    refine pm_e_sim pm_a167_21 rfl ?_
    refine pm_l_top (y := lI 0) (by decide +kernel) ?_
    show pm_E _ _ _ 22 [(0, .ref 18), (1, .int (iI x)), (2, .int (iI i))] [.long (lI 0), .long (lI i)] _ _ _ _
    refine pm_e_sim pm_a167_22 rfl ?_
    show pm_E _ _ _ 23 [(0, .ref 18), (1, .int (iI x)), (2, .int (iI i))] [.ref 18, .long (lI 0), .long (lI i)] _ _ _ _
    refine pm_i_get pm_a167_23 rfl (mh_get (j := 0) hA rfl) rfl ?_
    show pm_E _ _ _ 26 [(0, .ref 18), (1, .int (iI x)), (2, .int (iI i))] [.int (iI (s2 23)), .long (lI 0), .long (lI i)] _ _ _ _
    refine pm_e_sim pm_a167_26 rfl ?_
    refine pm_l_top (y := lI (s2 23)) (iI_l ⟨by omega, by omega⟩) ?_
    show pm_E _ _ _ 27 [(0, .ref 18), (1, .int (iI x)), (2, .int (iI i))] [.long (lI (s2 23)), .long (lI 0), .long (lI i)] _ _ _ _
    refine pm_e_call (T2 := pm_mm147) pm_a167_27 rfl rfl rfl rfl rfl rfl rfl rfl rfl ?_
    show pm_E none _ _ 0 [(0, .long (lI i)), (2, .long (lI 0)), (4, .long (lI (s2 23)))] [] _ _ _ _
    refine M_in ⟨by omega, by omega⟩ ⟨by omega, by omega⟩ ⟨by omega, by omega⟩ (fun h_2 => ?_) (fun h_2 => ?_)
    · skip
      show pm_E _ _ _ 30 [(0, .ref 18), (1, .int (iI x)), (2, .int (iI i))] [.int (iI 1)] _ _ _ _
      refine pm_e_ift pm_a167_30 rfl (by decide +kernel) ?_
      show pm_E _ _ _ 35 [(0, .ref 18), (1, .int (iI x)), (2, .int (iI i))] [] _ _ _ _
      refine pm_e_sim pm_a167_35 rfl ?_
      show pm_E _ _ _ 36 [(0, .ref 18), (1, .int (iI x)), (2, .int (iI i))] [.int (iI i)] _ _ _ _
      refine pm_e_sim pm_a167_36 rfl ?_
      show pm_E _ _ _ 37 [(0, .ref 18), (1, .int (iI x)), (2, .int (iI i))] [.ref 18, .int (iI i)] _ _ _ _
      refine pm_i_get pm_a167_37 rfl (mh_get (j := 0) hA rfl) rfl ?_
      show pm_E _ _ _ 40 [(0, .ref 18), (1, .int (iI x)), (2, .int (iI i))] [.int (iI (s2 23)), .int (iI i)] _ _ _ _
      refine pm_c_ne (t := 47) pm_a167_40 rfl ⟨by omega, by omega⟩ ⟨by omega, by omega⟩ (fun h_3 => ?_) (fun h_3 => ?_)
      · skip
        show pm_E _ _ _ 47 [(0, .ref 18), (1, .int (iI x)), (2, .int (iI i))] [] _ _ _ _
        refine pm_e_sim pm_a167_47 rfl ?_
        show pm_E _ _ _ 48 [(0, .ref 18), (1, .int (iI x)), (2, .int (iI i))] [.ref 18] _ _ _ _
        refine pm_i_get pm_a167_48 rfl (mh_get (j := 0) hA rfl) rfl ?_
        show pm_E _ _ _ 51 [(0, .ref 18), (1, .int (iI x)), (2, .int (iI i))] [.ref 29] _ _ _ _
        refine pm_e_sim pm_a167_51 rfl ?_
        show pm_E _ _ _ 52 [(0, .ref 18), (1, .int (iI x)), (2, .int (iI i))] [.int (iI i), .ref 29] _ _ _ _
        refine pm_i_ald pm_a167_52 (mh_get (j := 11) hA rfl) (by omega) (by omega) ⟨by omega, by omega⟩ ?_
        show pm_E _ _ _ 53 [(0, .ref 18), (1, .int (iI x)), (2, .int (iI i))] [.int (iI ((a2 11) (i)))] _ _ _ _
        refine pm_e_ret pm_a167_53 rfl rfl rfl rfl rfl rfl rfl rfl ?_
        exact k (by omega) (by omega) _ s2 a2 ⟨a1 4, ft, l, g1, by rw [← e6]; exact htx, Or.inl ⟨by omega, by omega, hgd i (by omega) (by omega)⟩⟩ (by rw [fS 0 (by omega), es]; rfl) ⟨by rw [fS 4 (by omega), es]; rfl, by rw [fS 45 (by omega), es]; rfl, by rw [fS 30 (by omega), es]; rfl, by rw [fS 31 (by omega), es]; rfl, by rw [fS 13 (by omega), es]; rfl⟩ (by rw [fA 1 (by omega) (by omega) (by omega) (by omega) (by omega) (by omega), ea]; rfl) (by rw [fA 2 (by omega) (by omega) (by omega) (by omega) (by omega) (by omega), ea]; rfl) (by rw [fA 3 (by omega) (by omega) (by omega) (by omega) (by omega) (by omega), ea]; rfl)
      · skip
        show pm_E _ _ _ 43 [(0, .ref 18), (1, .int (iI x)), (2, .int (iI i))] [] _ _ _ _
        refine pm_e_sim pm_a167_43 rfl ?_
        refine pm_e_top (y := iI 0) (by decide +kernel) ?_
        show pm_E _ _ _ 44 [(0, .ref 18), (1, .int (iI x)), (2, .int (iI i))] [.int (iI 0)] _ _ _ _
        refine pm_e_goto pm_a167_44 rfl ?_
        show pm_E _ _ _ 53 [(0, .ref 18), (1, .int (iI x)), (2, .int (iI i))] [.int (iI 0)] _ _ _ _
        refine pm_e_ret pm_a167_53 rfl rfl rfl rfl rfl rfl rfl rfl ?_
        exact k (by omega) (by omega) _ s2 a2 ⟨a1 4, ft, l, g1, by rw [← e6]; exact htx, Or.inl ⟨by omega, by omega, by rw [show i.toNat = l.length by omega, getD_len]⟩⟩ (by rw [fS 0 (by omega), es]; rfl) ⟨by rw [fS 4 (by omega), es]; rfl, by rw [fS 45 (by omega), es]; rfl, by rw [fS 30 (by omega), es]; rfl, by rw [fS 31 (by omega), es]; rfl, by rw [fS 13 (by omega), es]; rfl⟩ (by rw [fA 1 (by omega) (by omega) (by omega) (by omega) (by omega) (by omega), ea]; rfl) (by rw [fA 2 (by omega) (by omega) (by omega) (by omega) (by omega) (by omega), ea]; rfl) (by rw [fA 3 (by omega) (by omega) (by omega) (by omega) (by omega) (by omega), ea]; rfl)
    · skip
      show pm_E _ _ _ 30 [(0, .ref 18), (1, .int (iI x)), (2, .int (iI i))] [.int (iI 0)] _ _ _ _
      refine pm_e_iff pm_a167_30 rfl (by decide +kernel) ?_
      show pm_E _ _ _ 33 [(0, .ref 18), (1, .int (iI x)), (2, .int (iI i))] [] _ _ _ _
      refine pm_e_sim pm_a167_33 rfl ?_
      refine pm_e_top (y := iI (-1)) (by decide +kernel) ?_
      show pm_E _ _ _ 34 [(0, .ref 18), (1, .int (iI x)), (2, .int (iI i))] [.int (iI (-1))] _ _ _ _
      refine pm_e_ret pm_a167_34 rfl rfl rfl rfl rfl rfl rfl rfl ?_
      exact k (by omega) (by omega) _ s2 a2 ⟨a1 4, ft, l, g1, by rw [← e6]; exact htx, Or.inr ⟨by omega, rfl⟩⟩ (by rw [fS 0 (by omega), es]; rfl) ⟨by rw [fS 4 (by omega), es]; rfl, by rw [fS 45 (by omega), es]; rfl, by rw [fS 30 (by omega), es]; rfl, by rw [fS 31 (by omega), es]; rfl, by rw [fS 13 (by omega), es]; rfl⟩ (by rw [fA 1 (by omega) (by omega) (by omega) (by omega) (by omega) (by omega), ea]; rfl) (by rw [fA 2 (by omega) (by omega) (by omega) (by omega) (by omega) (by omega), ea]; rfl) (by rw [fA 3 (by omega) (by omega) (by omega) (by omega) (by omega) (by omega), ea]; rfl)
  · skip
    show pm_E _ _ _ 5 [(0, .ref 18), (1, .int (iI x)), (2, .int (iI i))] [.int (iI 0)] _ _ _ _
    refine pm_e_iff pm_a167_5 rfl (by decide +kernel) ?_
    show pm_E _ _ _ 8 [(0, .ref 18), (1, .int (iI x)), (2, .int (iI i))] [] _ _ _ _
    refine pm_e_sim pm_a167_8 rfl ?_
    refine pm_e_top (y := iI (-1)) (by decide +kernel) ?_
    show pm_E _ _ _ 9 [(0, .ref 18), (1, .int (iI x)), (2, .int (iI i))] [.int (iI (-1))] _ _ _ _
    refine pm_e_ret pm_a167_9 rfl rfl rfl rfl rfl rfl rfl rfl ?_
    exact kb (by omega)
