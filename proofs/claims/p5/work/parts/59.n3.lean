/-! THE REFERENCE: isAbstracted, the whole; abstracted -/
theorem glue {g0 g : Int → Int} {r : List Int} {q e o z : Int} (q0 : 0 ≤ q) (qe : q < e) (ez : e ≤ z) (ho : o = (r.length : Int) - (e - q)) (h1 : ∀ j, 0 ≤ j → j < q → g j = g0 j) (h2 : rg g r.length q = r) (h3 : ∀ j, e + o ≤ j → j < z + o → g j = g0 (j - o)) : rg g (z + o).toNat 0 = rg g0 q.toNat 0 ++ r ++ rg g0 (z - e).toNat e := by
  have c1 := rg_cut (g := g) (p := 0) (m := q) (e := z + o) (by omega) (by omega)
  have c2 := rg_cut (g := g) (p := q) (m := q + r.length) (e := z + o) (by omega) (by omega)
  rw [show (z + o - 0).toNat = (z + o).toNat by omega] at c1
  rw [c1, c2, show (q + (r.length : Int) - q).toNat = r.length by omega, h2, show (q - 0).toNat = q.toNat by omega, rg_eq (g := g0) (g' := g) (n := q.toNat) (p := 0) (fun j a b => h1 j a (by omega)), ← List.append_assoc]
  congr 1
  have := rg_congr (g := g0) (g' := g) (n := (z - e).toNat) (p := e) (o := o) (fun j a b => by rw [h3 (j + o) (by omega) (by omega), show j + o - o = j by omega])
  rw [show q + (r.length : Int) = e + o by omega, show (z + o - (e + o)).toNat = (z - e).toNat by omega]
  exact this
def KK (A B : List va_E) (vl : Int64) (nm : Nat → Int64) (Q : Option Value → List va_E → Nat → Nat → Prop) (s0 : Nat → Int) (a0 : Nat → Int → Int) (o : Option (List Int)) : Prop := match o with
  | none => ∀ s' a', (∀ j, j ≠ 6 → j ≠ 28 → s' j = s0 j) → (∀ j, j ≠ 4 → j ≠ 15 → a' j = a0 j) → Q (some (.int (iI 0))) (mh A s' vl a' nm B) 0 0
  | some l' => ∀ s' a', (∀ j, j ≠ 6 → j ≠ 28 → s' j = s0 j) → (∀ j, j ≠ 4 → j ≠ 15 → a' j = a0 j) → s' 6 = (l'.length : Int) → rg (a' 4) l'.length 0 = l' → Q (some (.int (iI 1))) (mh A s' vl a' nm B) 0 0
theorem u4_15' {a : Nat → Int → Int} {F : Int → Int} : u4 a (a 5) (a 6) (a 16) F = updA a 15 F := by
  funext j
  unfold u4 updA
  by_cases h5 : j = 5
  · subst h5; rfl
  · rw [if_neg h5]
    by_cases h6 : j = 6
    · subst h6; rfl
    · rw [if_neg h6]
      by_cases h16 : j = 16
      · subst h16; rfl
      · rw [if_neg h16]
set_option maxHeartbeats 4000000 in
set_option maxRecDepth 100000 in
theorem M_isAb_l {d : Nat} {A B : List va_E} {vl : Int64} {nm : Nat → Int64} {Q : Option Value → List va_E → Nat → Nat → Prop} {s0 : Nat → Int} {a0 : Nat → Int → Int} (hA : A.length = 18) : ∀ (f : Nat) (q0 : Int) (l : List Int) {F : Nat} (s : Nat → Int) (a : Nat → Int → Int), -1 ≤ q0 → q0 < 500 → q0 < l.length → (∀ j, q0 < j → j < s 6 → a 4 j ≠ 1) → tL F 0 l → l.length ≤ 2100 → s 6 = l.length → rg (a 4) l.length 0 = l → (∀ j, in32 (a 4 j)) → (∀ j, j ≠ 6 → j ≠ 28 → s j = s0 j) → (∀ j, j ≠ 4 → j ≠ 15 → a j = a0 j) → (∀ o m, abR m l o → KK A B vl nm Q s0 a0 o) → 2 * (l.count 1 : Int) + (if q0 < 0 then 0 else 1) < (f : Int) → pm_E none (d + 3) pm_mm195 7 [(0, .ref 18), (1, .int (iI q0))] [] (mh A s vl a nm B) 0 0 Q := by
  intro f
  induction f with
  | zero =>
    intro q0 l F s a hq0 hq5 hql hqn0 tt hll h6 hg hr fS fA k hf
    exfalso; split at hf <;> omega
  | succ f ih =>
    intro q0 l F s a hq0 hq5 hql hqn0 tt hll h6 hg hr fS fA k hf
    have tg : tm (a 4) F 0 0 (s 6) := by rw [h6]; exact tL_tm0 tt hg
    refine pm_e_sim pm_a195_7 rfl ?_
    show pm_E _ _ _ 8 [(0, .ref 18), (1, .int (iI q0))] [.int (iI q0)] _ _ _ _
    refine pm_i_lt (t := 221) pm_a195_8 rfl ⟨by omega, by omega⟩ (fun h_1 => ?_) (fun h_1 => ?_)
    · skip
      show pm_E _ _ _ 221 [(0, .ref 18), (1, .int (iI q0))] [] _ _ _ _
      refine pm_e_sim pm_a195_221 rfl ?_
      show pm_E _ _ _ 222 [(0, .ref 18), (1, .int (iI q0))] [.ref 18] _ _ _ _
      refine pm_i_get pm_a195_222 rfl (mh_get (j := 0) hA rfl) rfl ?_
      show pm_E _ _ _ 225 [(0, .ref 18), (1, .int (iI q0))] [.int (iI (s 6))] _ _ _ _
      refine pm_e_sim pm_a195_225 rfl ?_
      refine pm_e_top (y := iI 500) (by decide +kernel) ?_
      show pm_E _ _ _ 228 [(0, .ref 18), (1, .int (iI q0))] [.int (iI 500), .int (iI (s 6))] _ _ _ _
      refine pm_c_gt (t := 235) pm_a195_228 rfl ⟨by omega, by omega⟩ ⟨by omega, by omega⟩ (fun h_2 => ?_) (fun h_2 => ?_)
      · skip
        show pm_E _ _ _ 235 [(0, .ref 18), (1, .int (iI q0))] [] _ _ _ _
        refine pm_e_sim pm_a195_235 rfl ?_
        refine pm_e_top (y := iI 0) (by decide +kernel) ?_
        show pm_E _ _ _ 236 [(0, .ref 18), (1, .int (iI q0))] [.int (iI 0)] _ _ _ _
        refine pm_e_ret pm_a195_236 rfl rfl rfl rfl rfl rfl rfl rfl ?_
        have h1 : ∀ v ∈ l, v ≠ 1 := fun v hv z => by
          rw [← hg] at hv
          obtain ⟨j, a1, a2, a3⟩ := rg_mem hv
          exact hqn0 j (by omega) (by omega) (by omega)
        have hk := k none 0 ⟨h1, by rw [if_neg (by omega)]⟩
        exact hk s a fS fA
      · skip
        show pm_E _ _ _ 231 [(0, .ref 18), (1, .int (iI q0))] [] _ _ _ _
        refine pm_e_sim pm_a195_231 rfl ?_
        refine pm_e_top (y := iI 1) (by decide +kernel) ?_
        show pm_E _ _ _ 232 [(0, .ref 18), (1, .int (iI q0))] [.int (iI 1)] _ _ _ _
        refine pm_e_goto pm_a195_232 rfl ?_
        show pm_E _ _ _ 236 [(0, .ref 18), (1, .int (iI q0))] [.int (iI 1)] _ _ _ _
        refine pm_e_ret pm_a195_236 rfl rfl rfl rfl rfl rfl rfl rfl ?_
        have h1 : ∀ v ∈ l, v ≠ 1 := fun v hv z => by
          rw [← hg] at hv
          obtain ⟨j, a1, a2, a3⟩ := rg_mem hv
          exact hqn0 j (by omega) (by omega) (by omega)
        have hk := k (some l) 0 ⟨h1, by rw [if_pos (by omega)]⟩
        exact hk s a fS fA h6 hg
    · skip
      show pm_E _ _ _ 11 [(0, .ref 18), (1, .int (iI q0))] [] _ _ _ _
      refine M_isAb_q (Z := q0) hA (by omega) (by omega) hr ?_ (q0 + 2).toNat q0 (by omega) (by omega) (by omega) hqn0 (by omega)
      intro q hqz hq0 hql hqn hq1
      refine pm_e_sim pm_a195_31 rfl ?_
      show pm_E _ _ _ 32 [(0, .ref 18), (1, .int (iI q))] [.int (iI q)] _ _ _ _
      refine pm_i_lt (t := 7) pm_a195_32 rfl ⟨by omega, by omega⟩ (fun h_101 => ?_) (fun h_101 => ?_)
      · skip
        show pm_E _ _ _ 7 [(0, .ref 18), (1, .int (iI q))] [] _ _ _ _
        refine ih q l s a (by omega) (by omega) (by omega) (fun j z y => hqn j z (by omega)) tt hll h6 hg hr fS fA k ?_
        rw [if_pos (by omega)]; split at hf <;> omega
      · skip
        show pm_E _ _ _ 35 [(0, .ref 18), (1, .int (iI q))] [] _ _ _ _
        refine pm_e_sim pm_a195_35 rfl ?_
        show pm_E _ _ _ 36 [(0, .ref 18), (1, .int (iI q))] [.ref 18] _ _ _ _
        refine pm_e_sim pm_a195_36 rfl ?_
        show pm_E _ _ _ 37 [(0, .ref 18), (1, .int (iI q))] [.int (iI q), .ref 18] _ _ _ _
        refine pm_i_callv (k := 18) (T2 := pm_mm170) pm_a195_37 rfl rfl rfl (mh_get (j := 0) hA rfl) ⟨Nat.le_of_ble_eq_true rfl, Nat.le_of_ble_eq_true rfl, rfl, by decide +kernel⟩ ?_
        show pm_E none _ _ 0 [(0, .ref 18), (1, .int (iI q))] [] _ _ _ _
        obtain ⟨fe, ke, e, te, hee, hke, hke2, _⟩ := tm_sub tg q (by omega) (by omega)
        have lte := tm_lt te
        have hq1 := hq1 (by omega)
        obtain ⟨fb, tb, hfb⟩ := tm_lam te hq1
        have ltb := tm_lt tb
        refine M_endT hA hr te (by omega) (by omega) ?_
        show pm_E _ _ _ 40 [(0, .ref 18), (1, .int (iI q))] [.int (iI e)] _ _ _ _
        refine pm_e_sim pm_a195_40 rfl ?_
        show pm_E _ _ _ 41 [(0, .ref 18), (1, .int (iI q)), (2, .int (iI e))] [] _ _ _ _
        refine pm_e_sim pm_a195_41 rfl ?_
        show pm_E _ _ _ 42 [(0, .ref 18), (1, .int (iI q)), (2, .int (iI e))] [.ref 18] _ _ _ _
        refine pm_e_sim pm_a195_42 rfl ?_
        refine pm_e_top (y := iI 0) (by decide +kernel) ?_
        show pm_E _ _ _ 43 [(0, .ref 18), (1, .int (iI q)), (2, .int (iI e))] [.int (iI 0), .ref 18] _ _ _ _
        refine pm_i_put pm_a195_43 rfl (mh_get (j := 0) hA rfl) rfl (Nat.le_of_ble_eq_true rfl) (Or.inl rfl) (mw_28 hA _) ?_
        show pm_E _ _ _ 46 [(0, .ref 18), (1, .int (iI q)), (2, .int (iI e))] [] _ _ _ _
        refine pm_e_sim pm_a195_46 rfl ?_
        show pm_E _ _ _ 47 [(0, .ref 18), (1, .int (iI q)), (2, .int (iI e))] [.ref 18] _ _ _ _
        refine pm_e_sim pm_a195_47 rfl ?_
        show pm_E _ _ _ 48 [(0, .ref 18), (1, .int (iI q)), (2, .int (iI e))] [.int (iI q), .ref 18] _ _ _ _
        refine pm_i_callv (k := 18) (T2 := pm_mm196) pm_a195_48 rfl rfl rfl (mh_get (j := 0) hA rfl) ⟨Nat.le_of_ble_eq_true rfl, Nat.le_of_ble_eq_true rfl, rfl, by decide +kernel⟩ ?_
        show pm_E none _ _ 0 [(0, .ref 18), (1, .int (iI q))] [] _ _ _ _
        refine pm_e_heap (show _ = mh A (updS s 28 0) vl (u4 a (a 5) (a 6) (a 16) (a 15)) nm B from by rw [u4_self]) ?_
        refine M_abstracts hA hr tb (fun j z y => hqn j (by omega) (by omega)) (by omega) (by omega) (fun j z y => by have := tm_bd tg (by omega) j (by omega) (by omega); omega) (by omega) (by omega) (fun r N hab hN => ?_)
        have hrl := ab_len2 ltb hab
        have hrl2 := ab_len ltb hab
        obtain ⟨F2, T2⟩ := ab_tL tb (fun j z y => hqn j (by omega) (by omega)) hab
        have hrp := tL_pos T2
        have hrn := ab_no1 ltb (fun j z y => hqn j (by omega) (by omega)) hab
        have hs : abS l (rg (a 4) q.toNat 0 ++ r ++ rg (a 4) ((l.length : Int) - e).toNat e) r := ⟨a 4, q, e, fb, hg, by omega, by omega, hq1, fun j z y => hqn j z (by omega), ⟨_, _, te⟩, hab, rfl⟩
        obtain ⟨⟨F1, t1⟩, _, hcn, hl3, _⟩ := abS_facts tt hs
        replace hN : N = (r.length : Int) := by omega
        have hl1 : ((rg (a 4) q.toNat 0 ++ r ++ rg (a 4) ((l.length : Int) - e).toNat e).length : Int) = s 6 + (N - (e - q)) := by simp only [List.length_append, rg_len]; omega
        rw [u4_15']
        show pm_E _ _ _ 51 [(0, .ref 18), (1, .int (iI q)), (2, .int (iI e))] [] _ _ _ _
        refine pm_e_sim pm_a195_51 rfl ?_
        show pm_E _ _ _ 52 [(0, .ref 18), (1, .int (iI q)), (2, .int (iI e))] [.ref 18] _ _ _ _
        refine pm_i_get pm_a195_52 rfl (mh_get (j := 0) hA rfl) rfl ?_
        show pm_E _ _ _ 55 [(0, .ref 18), (1, .int (iI q)), (2, .int (iI e))] [.int (iI N)] _ _ _ _
        refine pm_e_sim pm_a195_55 rfl ?_
        refine pm_e_top (y := iI 500) (by decide +kernel) ?_
        show pm_E _ _ _ 58 [(0, .ref 18), (1, .int (iI q)), (2, .int (iI e))] [.int (iI 500), .int (iI N)] _ _ _ _
        refine pm_c_le (t := 63) pm_a195_58 rfl ⟨by omega, by omega⟩ ⟨by omega, by omega⟩ (fun h_102 => ?_) (fun h_102 => ?_)
        · skip
          show pm_E _ _ _ 63 [(0, .ref 18), (1, .int (iI q)), (2, .int (iI e))] [] _ _ _ _
          refine pm_e_sim pm_a195_63 rfl ?_
          show pm_E _ _ _ 64 [(0, .ref 18), (1, .int (iI q)), (2, .int (iI e))] [.ref 18] _ _ _ _
          refine pm_i_get pm_a195_64 rfl (mh_get (j := 0) hA rfl) rfl ?_
          show pm_E _ _ _ 67 [(0, .ref 18), (1, .int (iI q)), (2, .int (iI e))] [.int (iI N)] _ _ _ _
          refine pm_e_sim pm_a195_67 rfl ?_
          show pm_E _ _ _ 68 [(0, .ref 18), (1, .int (iI q)), (2, .int (iI e)), (3, .int (iI N))] [] _ _ _ _
          refine pm_e_sim pm_a195_68 rfl ?_
          show pm_E _ _ _ 69 [(0, .ref 18), (1, .int (iI q)), (2, .int (iI e)), (3, .int (iI N))] [.int (iI N)] _ _ _ _
          refine pm_e_sim pm_a195_69 rfl ?_
          show pm_E _ _ _ 70 [(0, .ref 18), (1, .int (iI q)), (2, .int (iI e)), (3, .int (iI N))] [.int (iI e), .int (iI N)] _ _ _ _
          refine pm_e_sim pm_a195_70 rfl ?_
          show pm_E _ _ _ 71 [(0, .ref 18), (1, .int (iI q)), (2, .int (iI e)), (3, .int (iI N))] [.int (iI q), .int (iI e), .int (iI N)] _ _ _ _
          refine pm_e_sim pm_a195_71 rfl ?_
          refine pm_e_top (y := iI (e - q)) (iI_sub _ _) ?_
          show pm_E _ _ _ 72 [(0, .ref 18), (1, .int (iI q)), (2, .int (iI e)), (3, .int (iI N))] [.int (iI (e - q)), .int (iI N)] _ _ _ _
          refine pm_e_sim pm_a195_72 rfl ?_
          refine pm_e_top (y := iI (N - (e - q))) (iI_sub _ _) ?_
          show pm_E _ _ _ 73 [(0, .ref 18), (1, .int (iI q)), (2, .int (iI e)), (3, .int (iI N))] [.int (iI (N - (e - q)))] _ _ _ _
          refine pm_e_sim pm_a195_73 rfl ?_
          show pm_E _ _ _ 75 [(0, .ref 18), (1, .int (iI q)), (2, .int (iI e)), (3, .int (iI N)), (4, .int (iI (N - (e - q))))] [] _ _ _ _
          refine pm_e_sim pm_a195_75 rfl ?_
          show pm_E _ _ _ 76 [(0, .ref 18), (1, .int (iI q)), (2, .int (iI e)), (3, .int (iI N)), (4, .int (iI (N - (e - q))))] [.ref 18] _ _ _ _
          refine pm_i_get pm_a195_76 rfl (mh_get (j := 0) hA rfl) rfl ?_
          show pm_E _ _ _ 79 [(0, .ref 18), (1, .int (iI q)), (2, .int (iI e)), (3, .int (iI N)), (4, .int (iI (N - (e - q))))] [.int (iI (s 6))] _ _ _ _
          refine pm_e_sim pm_a195_79 rfl ?_
          show pm_E _ _ _ 81 [(0, .ref 18), (1, .int (iI q)), (2, .int (iI e)), (3, .int (iI N)), (4, .int (iI (N - (e - q))))] [.int (iI (N - (e - q))), .int (iI (s 6))] _ _ _ _
          refine pm_e_sim pm_a195_81 rfl ?_
          refine pm_e_top (y := iI (s 6 + (N - (e - q)))) (iI_add _ _) ?_
          show pm_E _ _ _ 82 [(0, .ref 18), (1, .int (iI q)), (2, .int (iI e)), (3, .int (iI N)), (4, .int (iI (N - (e - q))))] [.int (iI (s 6 + (N - (e - q))))] _ _ _ _
          refine pm_e_sim pm_a195_82 rfl ?_
          refine pm_e_top (y := iI 500) (by decide +kernel) ?_
          show pm_E _ _ _ 85 [(0, .ref 18), (1, .int (iI q)), (2, .int (iI e)), (3, .int (iI N)), (4, .int (iI (N - (e - q))))] [.int (iI 500), .int (iI (s 6 + (N - (e - q))))] _ _ _ _
          refine pm_e_sim pm_a195_85 rfl ?_
          refine pm_e_top (y := iI 3) (by decide +kernel) ?_
          show pm_E _ _ _ 86 [(0, .ref 18), (1, .int (iI q)), (2, .int (iI e)), (3, .int (iI N)), (4, .int (iI (N - (e - q))))] [.int (iI 3), .int (iI 500), .int (iI (s 6 + (N - (e - q))))] _ _ _ _
          refine pm_e_sim pm_a195_86 rfl ?_
          show pm_E _ _ _ 87 [(0, .ref 18), (1, .int (iI q)), (2, .int (iI e)), (3, .int (iI N)), (4, .int (iI (N - (e - q))))] [.int (iI q), .int (iI 3), .int (iI 500), .int (iI (s 6 + (N - (e - q))))] _ _ _ _
          refine pm_e_sim pm_a195_87 rfl ?_
          refine pm_e_top (y := iI 1) (by decide +kernel) ?_
          show pm_E _ _ _ 88 [(0, .ref 18), (1, .int (iI q)), (2, .int (iI e)), (3, .int (iI N)), (4, .int (iI (N - (e - q))))] [.int (iI 1), .int (iI q), .int (iI 3), .int (iI 500), .int (iI (s 6 + (N - (e - q))))] _ _ _ _
          refine pm_e_sim pm_a195_88 rfl ?_
          refine pm_e_top (y := iI (q + 1)) (iI_add _ _) ?_
          show pm_E _ _ _ 89 [(0, .ref 18), (1, .int (iI q)), (2, .int (iI e)), (3, .int (iI N)), (4, .int (iI (N - (e - q))))] [.int (iI (q + 1)), .int (iI 3), .int (iI 500), .int (iI (s 6 + (N - (e - q))))] _ _ _ _
          refine pm_e_sim pm_a195_89 rfl ?_
          refine pm_e_top (y := iI (3 * (q + 1))) (iI_mul _ _) ?_
          show pm_E _ _ _ 90 [(0, .ref 18), (1, .int (iI q)), (2, .int (iI e)), (3, .int (iI N)), (4, .int (iI (N - (e - q))))] [.int (iI (3 * (q + 1))), .int (iI 500), .int (iI (s 6 + (N - (e - q))))] _ _ _ _
          refine pm_e_sim pm_a195_90 rfl ?_
          refine pm_e_top (y := iI (500 + (3 * (q + 1)))) (iI_add _ _) ?_
          show pm_E _ _ _ 91 [(0, .ref 18), (1, .int (iI q)), (2, .int (iI e)), (3, .int (iI N)), (4, .int (iI (N - (e - q))))] [.int (iI (500 + (3 * (q + 1)))), .int (iI (s 6 + (N - (e - q))))] _ _ _ _
          refine pm_c_le (t := 96) pm_a195_91 rfl ⟨by omega, by omega⟩ ⟨by omega, by omega⟩ (fun h_103 => ?_) (fun h_103 => ?_)
          · skip
            show pm_E _ _ _ 96 [(0, .ref 18), (1, .int (iI q)), (2, .int (iI e)), (3, .int (iI N)), (4, .int (iI (N - (e - q))))] [] _ _ _ _
            refine pm_e_sim pm_a195_96 rfl ?_
            show pm_E _ _ _ 98 [(0, .ref 18), (1, .int (iI q)), (2, .int (iI e)), (3, .int (iI N)), (4, .int (iI (N - (e - q))))] [.int (iI (N - (e - q)))] _ _ _ _
            refine pm_i_le (t := 141) pm_a195_98 rfl ⟨by omega, by omega⟩ (fun h_104 => ?_) (fun h_104 => ?_)
            · skip
              show pm_E _ _ _ 141 [(0, .ref 18), (1, .int (iI q)), (2, .int (iI e)), (3, .int (iI N)), (4, .int (iI (N - (e - q))))] [] _ _ _ _
              refine pm_e_sim pm_a195_141 rfl ?_
              show pm_E _ _ _ 142 [(0, .ref 18), (1, .int (iI q)), (2, .int (iI e)), (3, .int (iI N)), (4, .int (iI (N - (e - q))))] [.int (iI e)] _ _ _ _
              refine pm_e_sim pm_a195_142 rfl ?_
              show pm_E _ _ _ 144 [(0, .ref 18), (1, .int (iI q)), (2, .int (iI e)), (3, .int (iI N)), (4, .int (iI (N - (e - q)))), (5, .int (iI e))] [] _ _ _ _
              refine pm_e_heap (show _ = mh A (updS s 28 N) vl (updA (updA a 15 (laL (a 15) 0 r)) 4 (a 4)) nm B from by rw [show (a 4) = (updA a 15 (laL (a 15) 0 r)) 4 from rfl, updA_self]) ?_
              refine M_isAb_s (s := (updS s 28 N)) (a := (updA a 15 (laL (a 15) 0 r))) (g0 := a 4) hA (show 0 ≤ s 6 by omega) (show s 6 ≤ 3000 by omega) (by omega) (show e ≤ s 6 by omega) hr (by omega) (by omega) ?_ (s 6 - e + 1).toNat e (a 4) (by omega) (show e ≤ s 6 by omega) (fun j _ => rfl) (fun j z y => by omega) hr (show s 6 - e < _ by omega)
              intro g3 i3 hg3 hg4 hgi
              refine pm_e_sim pm_a195_176 rfl ?_
              refine pm_e_top (y := iI 0) (by decide +kernel) ?_
              show pm_E _ _ _ 177 [(0, .ref 18), (1, .int (iI q)), (2, .int (iI e)), (3, .int (iI N)), (4, .int (iI (N - (e - q)))), (5, .int (iI i3))] [.int (iI 0)] _ _ _ _
              refine pm_e_sim pm_a195_177 rfl ?_
              show pm_E _ _ _ 179 [(0, .ref 18), (1, .int (iI q)), (2, .int (iI e)), (3, .int (iI N)), (4, .int (iI (N - (e - q)))), (5, .int (iI 0))] [] _ _ _ _
              refine M_isAb_c (s := (updS s 28 N)) (a := (updA a 15 (laL (a 15) 0 r))) (g0 := g3) hA (by omega) (by omega) (by omega) (fun j z y => ?_) ?_ (N + 1).toNat 0 g3 (by omega) (by omega) (fun j _ => rfl) (fun j z y => by omega) hgi (by omega)
              · have hm := la_mem (F := a 15) (l := r) (n := 0) (by omega) j (by omega) (by omega)
                have := tL_in (by omega) (tL_small T2) _ hm
                show in32 (laL (a 15) 0 r j)
                constructor <;> omega
              intro g5 i5 hg5 hg6 hg7
              refine pm_e_sim pm_a195_207 rfl ?_
              show pm_E _ _ _ 208 [(0, .ref 18), (1, .int (iI q)), (2, .int (iI e)), (3, .int (iI N)), (4, .int (iI (N - (e - q)))), (5, .int (iI i5))] [.ref 18] _ _ _ _
              refine pm_e_sim pm_a195_208 rfl ?_
              show pm_E _ _ _ 209 [(0, .ref 18), (1, .int (iI q)), (2, .int (iI e)), (3, .int (iI N)), (4, .int (iI (N - (e - q)))), (5, .int (iI i5))] [.ref 18, .ref 18] _ _ _ _
              refine pm_i_get pm_a195_209 rfl (mh_get (j := 0) hA rfl) rfl ?_
              show pm_E _ _ _ 212 [(0, .ref 18), (1, .int (iI q)), (2, .int (iI e)), (3, .int (iI N)), (4, .int (iI (N - (e - q)))), (5, .int (iI i5))] [.int (iI (s 6)), .ref 18] _ _ _ _
              refine pm_e_sim pm_a195_212 rfl ?_
              show pm_E _ _ _ 214 [(0, .ref 18), (1, .int (iI q)), (2, .int (iI e)), (3, .int (iI N)), (4, .int (iI (N - (e - q)))), (5, .int (iI i5))] [.int (iI (N - (e - q))), .int (iI (s 6)), .ref 18] _ _ _ _
              refine pm_e_sim pm_a195_214 rfl ?_
              refine pm_e_top (y := iI (s 6 + (N - (e - q)))) (iI_add _ _) ?_
              show pm_E _ _ _ 215 [(0, .ref 18), (1, .int (iI q)), (2, .int (iI e)), (3, .int (iI N)), (4, .int (iI (N - (e - q)))), (5, .int (iI i5))] [.int (iI (s 6 + (N - (e - q)))), .ref 18] _ _ _ _
              refine pm_i_put pm_a195_215 rfl (mh_get (j := 0) hA rfl) rfl (Nat.le_of_ble_eq_true rfl) (Or.inl rfl) (mw_6 hA _) ?_
              show pm_E _ _ _ 218 [(0, .ref 18), (1, .int (iI q)), (2, .int (iI e)), (3, .int (iI N)), (4, .int (iI (N - (e - q)))), (5, .int (iI i5))] [] _ _ _ _
              refine pm_e_goto pm_a195_218 rfl ?_
              show pm_E _ _ _ 7 [(0, .ref 18), (1, .int (iI q)), (2, .int (iI e)), (3, .int (iI N)), (4, .int (iI (N - (e - q)))), (5, .int (iI i5))] [] _ _ _ _
              show pm_E _ _ _ 7 ([(0, .ref 18), (1, .int (iI q))] ++ [(2, .int (iI e)), (3, .int (iI N)), (4, .int (iI (N - (e - q)))), (5, .int (iI i5))]) [] _ _ _ _
              refine pm_e_more [(2, .int (iI e)), (3, .int (iI N)), (4, .int (iI (N - (e - q)))), (5, .int (iI i5))] (show ([0, 1, 2, 3, 4, 5] : List Nat).Nodup from by decide) ?_
              have hglue : rg g5 (s 6 + (N - (e - q))).toNat 0 = _ := glue (g0 := a 4) (g := g5) (r := r) (q := q) (e := e) (o := N - (e - q)) (z := s 6) (by omega) (by omega) (by omega) (by omega) (fun j z y => by rw [hg5 j (by omega)]; exact hg3 j (by omega) (by omega)) ?_ (fun j z y => by rw [hg5 j (by omega)]; exact hg4 j z (show j < s 6 + (N - (e - q)) by omega))
              · refine ih q (rg (a 4) q.toNat 0 ++ r ++ rg (a 4) ((l.length : Int) - e).toNat e) _ _ (by omega) (by omega) (by omega) ?_ t1 (by omega) hl1.symm ?_ hg7 (fun j h6 h28 => by simp [updS, h6, h28, fS j h6 h28]) (fun j h4 h15 => by simp [updA, h4, h15, fA j h4 h15]) (fun o m hm => k o (m + 1) (Or.inr ⟨_, r, hs, Or.inr ⟨by omega, hm⟩⟩)) ?_
                · intro j z y
                  replace y : j < s 6 + (N - (e - q)) := y
                  show g5 j ≠ 1
                  by_cases hj : j < q + N
                  · have := hg6 (j - q) (by omega) (by omega)
                    rw [show q + (j - q) = j by omega] at this
                    rw [this]
                    exact hrn _ (la_mem (F := a 15) (l := r) (n := 0) (by omega) (j - q) (by omega) (by omega))
                  · rw [hg5 j (by omega), hg4 j (by omega) (show j < s 6 + (N - (e - q)) by omega)]
                    exact hqn (j - (N - (e - q))) (by omega) (by omega)
                · show rg g5 _ 0 = _
                  rw [show (rg (a 4) q.toNat 0 ++ r ++ rg (a 4) ((l.length : Int) - e).toNat e).length = (s 6 + (N - (e - q))).toNat by omega, hglue, h6]
                · rw [if_neg (by omega)]; split at hf <;> omega
              · rw [← la_rg (F := a 15) (l := r) (n := 0) (by omega)]
                conv => rhs; rw [la_rg (by omega)]
                have := rg_congr (g := laL (a 15) 0 r) (g' := g5) (n := r.length) (p := 0) (o := q) (fun j z y => by rw [show j + q = q + j by omega]; exact hg6 j z (by omega))
                rw [show (0 : Int) + q = q by omega, la_rg (by omega)] at this
                rw [la_rg (by omega)]
                exact this
            · skip
              show pm_E _ _ _ 101 [(0, .ref 18), (1, .int (iI q)), (2, .int (iI e)), (3, .int (iI N)), (4, .int (iI (N - (e - q))))] [] _ _ _ _
              refine pm_e_sim pm_a195_101 rfl ?_
              show pm_E _ _ _ 102 [(0, .ref 18), (1, .int (iI q)), (2, .int (iI e)), (3, .int (iI N)), (4, .int (iI (N - (e - q))))] [.ref 18] _ _ _ _
              refine pm_i_get pm_a195_102 rfl (mh_get (j := 0) hA rfl) rfl ?_
              show pm_E _ _ _ 105 [(0, .ref 18), (1, .int (iI q)), (2, .int (iI e)), (3, .int (iI N)), (4, .int (iI (N - (e - q))))] [.int (iI (s 6))] _ _ _ _
              refine pm_e_sim pm_a195_105 rfl ?_
              refine pm_e_top (y := iI 1) (by decide +kernel) ?_
              show pm_E _ _ _ 106 [(0, .ref 18), (1, .int (iI q)), (2, .int (iI e)), (3, .int (iI N)), (4, .int (iI (N - (e - q))))] [.int (iI 1), .int (iI (s 6))] _ _ _ _
              refine pm_e_sim pm_a195_106 rfl ?_
              refine pm_e_top (y := iI (s 6 - 1)) (iI_sub _ _) ?_
              show pm_E _ _ _ 107 [(0, .ref 18), (1, .int (iI q)), (2, .int (iI e)), (3, .int (iI N)), (4, .int (iI (N - (e - q))))] [.int (iI (s 6 - 1))] _ _ _ _
              refine pm_e_sim pm_a195_107 rfl ?_
              show pm_E _ _ _ 109 [(0, .ref 18), (1, .int (iI q)), (2, .int (iI e)), (3, .int (iI N)), (4, .int (iI (N - (e - q)))), (5, .int (iI (s 6 - 1)))] [] _ _ _ _
              refine pm_e_heap (show _ = mh A (updS s 28 N) vl (updA (updA a 15 (laL (a 15) 0 r)) 4 (a 4)) nm B from by rw [show (a 4) = (updA a 15 (laL (a 15) 0 r)) 4 from rfl, updA_self]) ?_
              refine M_isAb_r (s := (updS s 28 N)) (a := (updA a 15 (laL (a 15) 0 r))) (g0 := a 4) hA (show 0 ≤ s 6 by omega) (show s 6 ≤ 3000 by omega) (by omega) (show e ≤ s 6 by omega) hr (by omega) (by omega) ?_ (s 6 - e + 1).toNat (s 6 - 1) (a 4) (by omega) (show s 6 - 1 < s 6 by omega) (fun j _ => rfl) (fun j z y => by replace y : j < s 6 + (N - (e - q)) := y; omega) hr (by omega)
              intro g3 i3 hg3 hg4 hgi
              refine pm_e_goto pm_a195_138 rfl ?_
              show pm_E _ _ _ 176 [(0, .ref 18), (1, .int (iI q)), (2, .int (iI e)), (3, .int (iI N)), (4, .int (iI (N - (e - q)))), (5, .int (iI i3))] [] _ _ _ _
              refine pm_e_sim pm_a195_176 rfl ?_
              refine pm_e_top (y := iI 0) (by decide +kernel) ?_
              show pm_E _ _ _ 177 [(0, .ref 18), (1, .int (iI q)), (2, .int (iI e)), (3, .int (iI N)), (4, .int (iI (N - (e - q)))), (5, .int (iI i3))] [.int (iI 0)] _ _ _ _
              refine pm_e_sim pm_a195_177 rfl ?_
              show pm_E _ _ _ 179 [(0, .ref 18), (1, .int (iI q)), (2, .int (iI e)), (3, .int (iI N)), (4, .int (iI (N - (e - q)))), (5, .int (iI 0))] [] _ _ _ _
              refine M_isAb_c (s := (updS s 28 N)) (a := (updA a 15 (laL (a 15) 0 r))) (g0 := g3) hA (by omega) (by omega) (by omega) (fun j z y => ?_) ?_ (N + 1).toNat 0 g3 (by omega) (by omega) (fun j _ => rfl) (fun j z y => by omega) hgi (by omega)
              · have hm := la_mem (F := a 15) (l := r) (n := 0) (by omega) j (by omega) (by omega)
                have := tL_in (by omega) (tL_small T2) _ hm
                show in32 (laL (a 15) 0 r j)
                constructor <;> omega
              intro g5 i5 hg5 hg6 hg7
              refine pm_e_sim pm_a195_207 rfl ?_
              show pm_E _ _ _ 208 [(0, .ref 18), (1, .int (iI q)), (2, .int (iI e)), (3, .int (iI N)), (4, .int (iI (N - (e - q)))), (5, .int (iI i5))] [.ref 18] _ _ _ _
              refine pm_e_sim pm_a195_208 rfl ?_
              show pm_E _ _ _ 209 [(0, .ref 18), (1, .int (iI q)), (2, .int (iI e)), (3, .int (iI N)), (4, .int (iI (N - (e - q)))), (5, .int (iI i5))] [.ref 18, .ref 18] _ _ _ _
              refine pm_i_get pm_a195_209 rfl (mh_get (j := 0) hA rfl) rfl ?_
              show pm_E _ _ _ 212 [(0, .ref 18), (1, .int (iI q)), (2, .int (iI e)), (3, .int (iI N)), (4, .int (iI (N - (e - q)))), (5, .int (iI i5))] [.int (iI (s 6)), .ref 18] _ _ _ _
              refine pm_e_sim pm_a195_212 rfl ?_
              show pm_E _ _ _ 214 [(0, .ref 18), (1, .int (iI q)), (2, .int (iI e)), (3, .int (iI N)), (4, .int (iI (N - (e - q)))), (5, .int (iI i5))] [.int (iI (N - (e - q))), .int (iI (s 6)), .ref 18] _ _ _ _
              refine pm_e_sim pm_a195_214 rfl ?_
              refine pm_e_top (y := iI (s 6 + (N - (e - q)))) (iI_add _ _) ?_
              show pm_E _ _ _ 215 [(0, .ref 18), (1, .int (iI q)), (2, .int (iI e)), (3, .int (iI N)), (4, .int (iI (N - (e - q)))), (5, .int (iI i5))] [.int (iI (s 6 + (N - (e - q)))), .ref 18] _ _ _ _
              refine pm_i_put pm_a195_215 rfl (mh_get (j := 0) hA rfl) rfl (Nat.le_of_ble_eq_true rfl) (Or.inl rfl) (mw_6 hA _) ?_
              show pm_E _ _ _ 218 [(0, .ref 18), (1, .int (iI q)), (2, .int (iI e)), (3, .int (iI N)), (4, .int (iI (N - (e - q)))), (5, .int (iI i5))] [] _ _ _ _
              refine pm_e_goto pm_a195_218 rfl ?_
              show pm_E _ _ _ 7 [(0, .ref 18), (1, .int (iI q)), (2, .int (iI e)), (3, .int (iI N)), (4, .int (iI (N - (e - q)))), (5, .int (iI i5))] [] _ _ _ _
              show pm_E _ _ _ 7 ([(0, .ref 18), (1, .int (iI q))] ++ [(2, .int (iI e)), (3, .int (iI N)), (4, .int (iI (N - (e - q)))), (5, .int (iI i5))]) [] _ _ _ _
              refine pm_e_more [(2, .int (iI e)), (3, .int (iI N)), (4, .int (iI (N - (e - q)))), (5, .int (iI i5))] (show ([0, 1, 2, 3, 4, 5] : List Nat).Nodup from by decide) ?_
              have hglue : rg g5 (s 6 + (N - (e - q))).toNat 0 = _ := glue (g0 := a 4) (g := g5) (r := r) (q := q) (e := e) (o := N - (e - q)) (z := s 6) (by omega) (by omega) (by omega) (by omega) (fun j z y => by rw [hg5 j (by omega)]; exact hg3 j (by omega) (by omega)) ?_ (fun j z y => by rw [hg5 j (by omega)]; exact hg4 j z (show j < s 6 + (N - (e - q)) by omega))
              · refine ih q (rg (a 4) q.toNat 0 ++ r ++ rg (a 4) ((l.length : Int) - e).toNat e) _ _ (by omega) (by omega) (by omega) ?_ t1 (by omega) hl1.symm ?_ hg7 (fun j h6 h28 => by simp [updS, h6, h28, fS j h6 h28]) (fun j h4 h15 => by simp [updA, h4, h15, fA j h4 h15]) (fun o m hm => k o (m + 1) (Or.inr ⟨_, r, hs, Or.inr ⟨by omega, hm⟩⟩)) ?_
                · intro j z y
                  replace y : j < s 6 + (N - (e - q)) := y
                  show g5 j ≠ 1
                  by_cases hj : j < q + N
                  · have := hg6 (j - q) (by omega) (by omega)
                    rw [show q + (j - q) = j by omega] at this
                    rw [this]
                    exact hrn _ (la_mem (F := a 15) (l := r) (n := 0) (by omega) (j - q) (by omega) (by omega))
                  · rw [hg5 j (by omega), hg4 j (by omega) (show j < s 6 + (N - (e - q)) by omega)]
                    exact hqn (j - (N - (e - q))) (by omega) (by omega)
                · show rg g5 _ 0 = _
                  rw [show (rg (a 4) q.toNat 0 ++ r ++ rg (a 4) ((l.length : Int) - e).toNat e).length = (s 6 + (N - (e - q))).toNat by omega, hglue, h6]
                · rw [if_neg (by omega)]; split at hf <;> omega
              · rw [← la_rg (F := a 15) (l := r) (n := 0) (by omega)]
                conv => rhs; rw [la_rg (by omega)]
                have := rg_congr (g := laL (a 15) 0 r) (g' := g5) (n := r.length) (p := 0) (o := q) (fun j z y => by rw [show j + q = q + j by omega]; exact hg6 j z (by omega))
                rw [show (0 : Int) + q = q by omega, la_rg (by omega)] at this
                rw [la_rg (by omega)]
                exact this
          · skip
            show pm_E _ _ _ 94 [(0, .ref 18), (1, .int (iI q)), (2, .int (iI e)), (3, .int (iI N)), (4, .int (iI (N - (e - q))))] [] _ _ _ _
            refine pm_e_sim pm_a195_94 rfl ?_
            refine pm_e_top (y := iI 0) (by decide +kernel) ?_
            show pm_E _ _ _ 95 [(0, .ref 18), (1, .int (iI q)), (2, .int (iI e)), (3, .int (iI N)), (4, .int (iI (N - (e - q))))] [.int (iI 0)] _ _ _ _
            refine pm_e_ret pm_a195_95 rfl rfl rfl rfl rfl rfl rfl rfl ?_
            have hcl : ((rg (a 4) q.toNat 0 ++ r ++ rg (a 4) ((l.length : Int) - e).toNat e).count 1 : Int) ≤ q := by
              have c1 := List.count_le_length (a := (1 : Int)) (l := rg (a 4) q.toNat 0)
              rw [rg_len] at c1
              have c2 : r.count 1 = 0 := List.count_eq_zero.mpr (fun z => hrn 1 z rfl)
              have c3 : (rg (a 4) ((l.length : Int) - e).toNat e).count 1 = 0 := List.count_eq_zero.mpr (fun z => by
                obtain ⟨j, a1, a2, a3⟩ := rg_mem z
                exact hqn j (by omega) (by omega) a3.symm)
              rw [List.count_append, List.count_append, c2, c3]
              omega
            have hc500 : r.length ≤ 500 := by omega
            obtain ⟨o, ho⟩ := abR_ex _ t1 rfl
            have hon := abR_big t1 ho (by omega)
            subst hon
            have hab9 : abR ((rg (a 4) q.toNat 0 ++ r ++ rg (a 4) ((l.length : Int) - e).toNat e).count 1 + 1) l none := Or.inr ⟨_, r, hs, Or.inr ⟨hc500, ho⟩⟩
            exact k none _ hab9 _ _ (fun j h6 h28 => by simp [updS, h6, h28, fS j h6 h28]) (fun j h4 h15 => by simp [updA, h4, h15, fA j h4 h15])
        · skip
          show pm_E _ _ _ 61 [(0, .ref 18), (1, .int (iI q)), (2, .int (iI e))] [] _ _ _ _
          refine pm_e_sim pm_a195_61 rfl ?_
          refine pm_e_top (y := iI 0) (by decide +kernel) ?_
          show pm_E _ _ _ 62 [(0, .ref 18), (1, .int (iI q)), (2, .int (iI e))] [.int (iI 0)] _ _ _ _
          refine pm_e_ret pm_a195_62 rfl rfl rfl rfl rfl rfl rfl rfl ?_
          exact k none 1 (Or.inr ⟨_, r, hs, Or.inl ⟨by omega, rfl⟩⟩) _ _ (fun j h6 h28 => by simp [updS, h6, h28, fS j h6 h28]) (fun j h4 h15 => by simp [updA, h4, h15, fA j h4 h15])
set_option maxHeartbeats 4000000 in
set_option maxRecDepth 100000 in
theorem M_isAbstracted {d : Nat} {A B : List va_E} {s : Nat → Int} {vl : Int64} {a : Nat → Int → Int} {nm : Nat → Int64} {Q : Option Value → List va_E → Nat → Nat → Prop} {l : List Int} {F : Nat} (hA : A.length = 18) (tt : tL F 0 l) (hl : l.length ≤ 500) (h6 : s 6 = l.length) (hg : rg (a 4) l.length 0 = l) (hr : ∀ j, in32 (a 4 j)) (k : ∀ o m, abR m l o → KK A B vl nm Q s a o) : pm_E none (d + 3) pm_mm195 0 [(0, .ref 18)] [] (mh A s vl a nm B) 0 0 Q := by
  have hp := tL_pos tt
  refine pm_e_sim pm_a195_0 rfl ?_
  show pm_E _ _ _ 1 [(0, .ref 18)] [.ref 18] _ _ _ _
  refine pm_i_get pm_a195_1 rfl (mh_get (j := 0) hA rfl) rfl ?_
  show pm_E _ _ _ 4 [(0, .ref 18)] [.int (iI (s 6))] _ _ _ _
  refine pm_e_sim pm_a195_4 rfl ?_
  refine pm_e_top (y := iI 1) (by decide +kernel) ?_
  show pm_E _ _ _ 5 [(0, .ref 18)] [.int (iI 1), .int (iI (s 6))] _ _ _ _
  refine pm_e_sim pm_a195_5 rfl ?_
  refine pm_e_top (y := iI (s 6 - 1)) (iI_sub _ _) ?_
  show pm_E _ _ _ 6 [(0, .ref 18)] [.int (iI (s 6 - 1))] _ _ _ _
  refine pm_e_sim pm_a195_6 rfl ?_
  show pm_E _ _ _ 7 [(0, .ref 18), (1, .int (iI (s 6 - 1)))] [] _ _ _ _
  refine M_isAb_l hA (2 * (l.count 1) + 2) (s 6 - 1) l s a (by omega) (by omega) (by omega) (fun j z y => by omega) tt (by omega) h6 hg hr (fun j _ _ => rfl) (fun j _ _ => rfl) k ?_
  split <;> omega
set_option maxHeartbeats 4000000 in
set_option maxRecDepth 100000 in
theorem M_abstracted {d : Nat} {A B : List va_E} {s : Nat → Int} {vl : Int64} {a : Nat → Int → Int} {nm : Nat → Int64} {Q : Option Value → List va_E → Nat → Nat → Prop} {n x : Int} {T : Int → List Int} (hA : A.length = 18) (hin : ∀ i j, in32 (a i j)) (hok : okT n T) (hsh : sh s a n T) (hx : in32 x) (kb : (x < 0 ∨ n ≤ x) → Q (some (.int (iI (-1)))) (mh A s vl a nm B) 0 0) (kf : 0 ≤ x ∧ x < n ∧ n = 32 → Q (some (.int (iI (-3)))) (mh A s vl a nm B) 0 0) (kn : ∀ m, 0 ≤ x → x < n → n < 32 → abR m (T x) none → ∀ s' a', s' 0 = s 0 → (s' 4 = s 4 ∧ s' 45 = s 45 ∧ s' 30 = s 30 ∧ s' 31 = s 31 ∧ s' 13 = s 13) → a' 1 = a 1 → a' 2 = a 2 → a' 3 = a 3 → Q (some (.int (iI (-3)))) (mh A s' vl a' nm B) 0 0) (k : ∀ l' m, 0 ≤ x → x < n → n < 32 → abR m (T x) (some l') → ∀ s' a', sh s' a' (n + 1) (upT T n l') → (s' 4 = s 4 ∧ s' 45 = s 45 ∧ s' 30 = s 30 ∧ s' 31 = s 31 ∧ s' 13 = s 13) → a' 3 = a 3 → Q (some (.int (iI n))) (mh A s' vl a' nm B) 0 0) : pm_E none (d + 4) pm_mm194 0 [(0, .ref 18), (1, .int (iI x))] [] (mh A s vl a nm B) 0 0 Q := by
  obtain ⟨on0, on1, okk⟩ := id hok
  have s0 := hsh.1
  refine pm_e_sim pm_a194_0 rfl ?_
  show pm_E _ _ _ 1 [(0, .ref 18), (1, .int (iI x))] [.ref 18] _ _ _ _
  refine pm_e_sim pm_a194_1 rfl ?_
  show pm_E _ _ _ 2 [(0, .ref 18), (1, .int (iI x))] [.int (iI x), .ref 18] _ _ _ _
  refine pm_i_callv (k := 18) (T2 := pm_mm165) pm_a194_2 rfl rfl rfl (mh_get (j := 0) hA rfl) ⟨Nat.le_of_ble_eq_true rfl, Nat.le_of_ble_eq_true rfl, rfl, by decide +kernel⟩ ?_
  show pm_E none _ _ 0 [(0, .ref 18), (1, .int (iI x))] [] _ _ _ _
  refine M_isTerm hA ⟨by omega, by omega⟩ (by omega) (by omega) (fun h_1 => ?_) (fun h_1 => ?_)
  · skip
    show pm_E _ _ _ 5 [(0, .ref 18), (1, .int (iI x))] [.int (iI 1)] _ _ _ _
    refine pm_e_ift pm_a194_5 rfl (by decide +kernel) ?_
    show pm_E _ _ _ 10 [(0, .ref 18), (1, .int (iI x))] [] _ _ _ _
    refine pm_e_sim pm_a194_10 rfl ?_
    show pm_E _ _ _ 11 [(0, .ref 18), (1, .int (iI x))] [.ref 18] _ _ _ _
    refine pm_i_get pm_a194_11 rfl (mh_get (j := 0) hA rfl) rfl ?_
    show pm_E _ _ _ 14 [(0, .ref 18), (1, .int (iI x))] [.int (iI (s 0))] _ _ _ _
    refine pm_e_sim pm_a194_14 rfl ?_
    refine pm_e_top (y := iI 32) (by decide +kernel) ?_
    show pm_E _ _ _ 16 [(0, .ref 18), (1, .int (iI x))] [.int (iI 32), .int (iI (s 0))] _ _ _ _
    refine pm_c_ne (t := 22) pm_a194_16 rfl ⟨by omega, by omega⟩ ⟨by omega, by omega⟩ (fun h_2 => ?_) (fun h_2 => ?_)
    · skip
      show pm_E _ _ _ 22 [(0, .ref 18), (1, .int (iI x))] [] _ _ _ _
      refine pm_e_sim pm_a194_22 rfl ?_
      show pm_E _ _ _ 23 [(0, .ref 18), (1, .int (iI x))] [.ref 18] _ _ _ _
      refine pm_e_sim pm_a194_23 rfl ?_
      show pm_E _ _ _ 24 [(0, .ref 18), (1, .int (iI x))] [.int (iI x), .ref 18] _ _ _ _
      refine pm_i_callv (k := 18) (T2 := pm_mm168) pm_a194_24 rfl rfl rfl (mh_get (j := 0) hA rfl) ⟨Nat.le_of_ble_eq_true rfl, Nat.le_of_ble_eq_true rfl, rfl, by decide +kernel⟩ ?_
      show pm_E none _ _ 0 [(0, .ref 18), (1, .int (iI x))] [] _ _ _ _
      obtain ⟨tl, ft, tt⟩ := hok.2.2 x (by omega) (by omega)
      have tp := tL_pos tt
      have ts := (hsh.2 x (by omega) (by omega)).1
      have tk := sh_take hsh (x := x) (by omega) (by omega)
      refine M_take hA (by omega) (by omega) (by omega) (by omega) (fun s1 a1 es ea => ?_)
      have e6 : s1 6 = (T x).length := by rw [es, ← ts]; rfl
      have t1 : tm (a1 4) ft 0 0 (s1 6) := by rw [e6, ea]; exact tL_tm0 tt tk
      have hr1 : ∀ j, in32 (a1 4 j) := fun j => by rw [ea]; exact cpI_in (hin 4) (hin 2) j
      have g1 : rg (a1 4) (T x).length 0 = T x := by rw [ea]; exact tk
      show pm_E _ _ _ 27 [(0, .ref 18), (1, .int (iI x))] [] _ _ _ _
      refine pm_e_sim pm_a194_27 rfl ?_
      show pm_E _ _ _ 28 [(0, .ref 18), (1, .int (iI x))] [.ref 18] _ _ _ _
      refine pm_i_callv (k := 18) (T2 := pm_mm195) pm_a194_28 rfl rfl rfl (mh_get (j := 0) hA rfl) ⟨Nat.le_of_ble_eq_true rfl, Nat.le_of_ble_eq_true rfl, rfl, by decide +kernel⟩ ?_
      show pm_E none _ _ 0 [(0, .ref 18)] [] _ _ _ _
      refine M_isAbstracted hA tt tl e6 g1 hr1 (fun o m hm => ?_)
      rcases o with _ | l'
      · skip
        intro s2 a2 fS fA
        show pm_E _ _ _ 31 [(0, .ref 18), (1, .int (iI x))] [.int (iI 0)] _ _ _ _
        refine pm_e_iff pm_a194_31 rfl (by decide +kernel) ?_
        show pm_E _ _ _ 34 [(0, .ref 18), (1, .int (iI x))] [] _ _ _ _
        refine pm_e_sim pm_a194_34 rfl ?_
        refine pm_e_top (y := iI (-3)) (by decide +kernel) ?_
        show pm_E _ _ _ 36 [(0, .ref 18), (1, .int (iI x))] [.int (iI (-3))] _ _ _ _
        refine pm_e_ret pm_a194_36 rfl rfl rfl rfl rfl rfl rfl rfl ?_
        exact kn m (by omega) (by omega) (by omega) hm s2 a2 (by rw [fS 0 (by omega) (by omega), es]; rfl) ⟨by rw [fS 4 (by omega) (by omega), es]; rfl, by rw [fS 45 (by omega) (by omega), es]; rfl, by rw [fS 30 (by omega) (by omega), es]; rfl, by rw [fS 31 (by omega) (by omega), es]; rfl, by rw [fS 13 (by omega) (by omega), es]; rfl⟩ (by rw [fA 1 (by omega) (by omega), ea]; rfl) (by rw [fA 2 (by omega) (by omega), ea]; rfl) (by rw [fA 3 (by omega) (by omega), ea]; rfl)
      · skip
        intro s2 a2 fS fA e2 g2
        obtain ⟨l5, F5, t5⟩ := abR_ok tt hm
        have s20 : s2 0 = n := by rw [fS 0 (by omega) (by omega), es]; exact s0
        show pm_E _ _ _ 31 [(0, .ref 18), (1, .int (iI x))] [.int (iI 1)] _ _ _ _
        refine pm_e_ift pm_a194_31 rfl (by decide +kernel) ?_
        show pm_E _ _ _ 37 [(0, .ref 18), (1, .int (iI x))] [] _ _ _ _
        refine pm_e_sim pm_a194_37 rfl ?_
        show pm_E _ _ _ 38 [(0, .ref 18), (1, .int (iI x))] [.ref 18] _ _ _ _
        refine pm_e_sim pm_a194_38 rfl ?_
        show pm_E _ _ _ 39 [(0, .ref 18), (1, .int (iI x))] [.ref 18, .ref 18] _ _ _ _
        refine pm_i_get pm_a194_39 rfl (mh_get (j := 0) hA rfl) rfl ?_
        show pm_E _ _ _ 42 [(0, .ref 18), (1, .int (iI x))] [.int (iI (s2 0)), .ref 18] _ _ _ _
        refine pm_i_callv (k := 18) (T2 := pm_mm162) pm_a194_42 rfl rfl rfl (mh_get (j := 0) hA rfl) ⟨Nat.le_of_ble_eq_true rfl, Nat.le_of_ble_eq_true rfl, rfl, by decide +kernel⟩ ?_
        show pm_E none _ _ 0 [(0, .ref 18), (1, .int (iI (s2 0)))] [] _ _ _ _
        have e12 : a2 1 = a 1 := by rw [fA 1 (by omega) (by omega), ea]; rfl
        have e22 : a2 2 = a 2 := by rw [fA 2 (by omega) (by omega), ea]; rfl
        have e32 : a2 3 = a 3 := by rw [fA 3 (by omega) (by omega), ea]; rfl
        refine M_keep hA (by omega) (by omega) (by omega) (by omega) (fun a3 e3 => ?_)
        have hs3 : ∀ t, 0 ≤ t → t < n + 1 → a3 1 t = (upT T n l' t).length ∧ rg (a3 2) (upT T n l' t).length (500 * t) = upT T n l' t := by
          rw [e3, s20]
          exact sh_keep (by omega) (fun t z y ne => by rw [e12, e22]; exact ⟨(okk t z (by omega)).1, hsh.2 t z (by omega)⟩) l5 g2 e2
        show pm_E _ _ _ 45 [(0, .ref 18), (1, .int (iI x))] [] _ _ _ _
        refine pm_e_sim pm_a194_45 rfl ?_
        show pm_E _ _ _ 46 [(0, .ref 18), (1, .int (iI x))] [.ref 18] _ _ _ _
        refine pm_e_sim pm_a194_46 rfl ?_
        show pm_E _ _ _ 47 [(0, .ref 18), (1, .int (iI x))] [.ref 18, .ref 18] _ _ _ _
        refine pm_i_get pm_a194_47 rfl (mh_get (j := 0) hA rfl) rfl ?_
        show pm_E _ _ _ 50 [(0, .ref 18), (1, .int (iI x))] [.int (iI (s2 0)), .ref 18] _ _ _ _
        refine pm_e_sim pm_a194_50 rfl ?_
        refine pm_e_top (y := iI 1) (by decide +kernel) ?_
        show pm_E _ _ _ 51 [(0, .ref 18), (1, .int (iI x))] [.int (iI 1), .int (iI (s2 0)), .ref 18] _ _ _ _
        refine pm_e_sim pm_a194_51 rfl ?_
        refine pm_e_top (y := iI (s2 0 + 1)) (iI_add _ _) ?_
        show pm_E _ _ _ 52 [(0, .ref 18), (1, .int (iI x))] [.int (iI (s2 0 + 1)), .ref 18] _ _ _ _
        refine pm_i_put pm_a194_52 rfl (mh_get (j := 0) hA rfl) rfl (Nat.le_of_ble_eq_true rfl) (Or.inl rfl) (mw_0 hA _) ?_
        show pm_E _ _ _ 55 [(0, .ref 18), (1, .int (iI x))] [] _ _ _ _
        refine pm_e_sim pm_a194_55 rfl ?_
        show pm_E _ _ _ 56 [(0, .ref 18), (1, .int (iI x))] [.ref 18] _ _ _ _
        refine pm_i_get pm_a194_56 rfl (mh_get (j := 0) hA rfl) rfl ?_
        show pm_E _ _ _ 59 [(0, .ref 18), (1, .int (iI x))] [.int (iI (s2 0 + 1))] _ _ _ _
        refine pm_e_sim pm_a194_59 rfl ?_
        refine pm_e_top (y := iI 1) (by decide +kernel) ?_
        show pm_E _ _ _ 60 [(0, .ref 18), (1, .int (iI x))] [.int (iI 1), .int (iI (s2 0 + 1))] _ _ _ _
        refine pm_e_sim pm_a194_60 rfl ?_
        refine pm_e_top (y := iI (s2 0 + 1 - 1)) (iI_sub _ _) ?_
        show pm_E _ _ _ 61 [(0, .ref 18), (1, .int (iI x))] [.int (iI (s2 0 + 1 - 1))] _ _ _ _
        refine pm_e_ret pm_a194_61 rfl rfl rfl rfl rfl rfl rfl rfl ?_
        refine pm_q_v (y := iI n) (by rw [s20]; exact congrArg iI (by omega)) ?_
        refine k l' m (by omega) (by omega) (by omega) hm _ a3 ⟨?_, hs3⟩ ?_ ?_
        · show s2 0 + 1 = n + 1; omega
        · exact ⟨by show s2 4 = s 4; rw [fS 4 (by omega) (by omega), es]; rfl, by show s2 45 = s 45; rw [fS 45 (by omega) (by omega), es]; rfl, by show s2 30 = s 30; rw [fS 30 (by omega) (by omega), es]; rfl, by show s2 31 = s 31; rw [fS 31 (by omega) (by omega), es]; rfl, by show s2 13 = s 13; rw [fS 13 (by omega) (by omega), es]; rfl⟩
        · rw [e3, ← e32]; rfl
    · skip
      show pm_E _ _ _ 19 [(0, .ref 18), (1, .int (iI x))] [] _ _ _ _
      refine pm_e_sim pm_a194_19 rfl ?_
      refine pm_e_top (y := iI (-3)) (by decide +kernel) ?_
      show pm_E _ _ _ 21 [(0, .ref 18), (1, .int (iI x))] [.int (iI (-3))] _ _ _ _
      refine pm_e_ret pm_a194_21 rfl rfl rfl rfl rfl rfl rfl rfl ?_
      exact kf (by omega)
  · skip
    show pm_E _ _ _ 5 [(0, .ref 18), (1, .int (iI x))] [.int (iI 0)] _ _ _ _
    refine pm_e_iff pm_a194_5 rfl (by decide +kernel) ?_
    show pm_E _ _ _ 8 [(0, .ref 18), (1, .int (iI x))] [] _ _ _ _
    refine pm_e_sim pm_a194_8 rfl ?_
    refine pm_e_top (y := iI (-1)) (by decide +kernel) ?_
    show pm_E _ _ _ 9 [(0, .ref 18), (1, .int (iI x))] [.int (iI (-1))] _ _ _ _
    refine pm_e_ret pm_a194_9 rfl rfl rfl rfl rfl rfl rfl rfl ?_
    exact kb (by omega)
