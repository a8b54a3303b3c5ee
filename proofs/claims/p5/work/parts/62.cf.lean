/-! THE CLASS: Abstracter: abstractInto -/
theorem rg_fun (l : List Int) : ∀ p : Int, rg (fun i => l.getD (i - p).toNat 0) l.length p = l := by
  induction l with
  | nil => intro p; rfl
  | cons v l ih =>
    intro p
    show (v :: l).getD (p - p).toNat 0 :: rg _ l.length (p + 1) = v :: l
    rw [show (p - p).toNat = 0 by omega, rg_eq (g := fun i => l.getD (i - (p + 1)).toNat 0) (fun j z y => by
      show (v :: l).getD (j - p).toNat 0 = l.getD (j - (p + 1)).toNat 0
      rw [show (j - p).toNat = (j - (p + 1)).toNat + 1 by omega]; rfl), ih (p + 1)]
    rfl
theorem rg_ex (l : List Int) : ∃ g : Int → Int, rg g l.length 0 = l := ⟨_, rg_fun l 0⟩
theorem rg_sn1 {g : Int → Int} {i : Int} (h : 0 ≤ i) : rg g (i + 1).toNat 0 = rg g i.toNat 0 ++ [g i] := by
  rw [show (i + 1).toNat = i.toNat + 1 by omega, rg_app]
  show _ ++ [g (0 + (i.toNat : Int))] = _
  rw [show (0 : Int) + (i.toNat : Int) = i by omega]
/-- P is still to be taken, H is held: the answer is that of l -/
def abI (l P H : List Int) : Prop := (∃ F, tL F 0 (P ++ H)) ∧ (∀ v ∈ H, v ≠ 1) ∧ ∀ n o, abR n (P ++ H) o → ∃ n', abR n' l o
theorem abI_big {l P H : List Int} (h : abI l P H) (hb : 500 + 3 * P.length < P.length + H.length) : ∃ n, abR n l none := by
  obtain ⟨⟨F, t⟩, h1, h2⟩ := h
  obtain ⟨o, ho⟩ := abR_ex _ t rfl
  have hc : (P ++ H).count 1 ≤ P.length := by
    rw [List.count_append, List.count_eq_zero.mpr (fun z => h1 1 z rfl)]
    have := List.count_le_length (a := (1 : Int)) (l := P)
    omega
  have := abR_big t ho (by rw [List.length_append]; omega)
  subst this
  exact h2 _ _ ho
theorem abI_hold {l P H : List Int} {v : Int} (h : abI l (P ++ [v]) H) (hv : v ≠ 1) : abI l P (v :: H) := by
  obtain ⟨h0, h1, h2⟩ := h
  rw [← List.append_cons] at h0 h2
  refine ⟨h0, fun x hx => ?_, h2⟩
  rcases List.mem_cons.mp hx with h | h
  · rw [h]; exact hv
  · exact h1 x h
theorem abI_lam {l P H : List Int} (h : abI l (P ++ [1]) H) : ∃ (B R : List Int) (F : Nat) (kk : Int), H = B ++ R ∧ tL F kk B ∧ (0 ≤ kk ∧ kk ≤ P.length + 1) ∧ (∀ v ∈ B, v ≠ 1) ∧ ∀ r, abL B r → (r.length ≤ 500 → abI l P (r ++ R)) ∧ (500 < r.length → ∃ n, abR n l none) := by
  obtain ⟨⟨F, t⟩, h1, h2⟩ := h
  rw [← List.append_cons] at t h2
  obtain ⟨G, hG⟩ := rg_ex (P ++ 1 :: H)
  have tG := tL_tm0 t hG
  have hG2 := hG
  rw [List.length_append, rg_app] at hG2
  obtain ⟨hP, hH0⟩ := List.append_inj hG2 rg_len
  rw [show (0 : Int) + (P.length : Int) = (P.length : Int) by omega] at hH0
  obtain ⟨hq, hH⟩ := List.cons.inj (show G P.length :: rg G H.length ((P.length : Int) + 1) = 1 :: H from hH0)
  have hlen : (P ++ 1 :: H).length = P.length + H.length + 1 := by rw [List.length_append, List.length_cons]; omega
  obtain ⟨f1, k1, e, tq, he, hk0, hk1, _⟩ := tm_sub tG P.length (by omega) (by omega)
  obtain ⟨f2, tb, _⟩ := tm_lam tq hq
  have lb := tm_lt tb
  have hcut : H = rg G (e - ((P.length : Int) + 1)).toNat ((P.length : Int) + 1) ++ rg G (((P ++ 1 :: H).length : Int) - e).toNat e := by
    have hh : rg G (((P ++ 1 :: H).length : Int) - ((P.length : Int) + 1)).toNat ((P.length : Int) + 1) = H := by
      rw [show (((P ++ 1 :: H).length : Int) - ((P.length : Int) + 1)).toNat = H.length by omega]
      exact hH
    rw [rg_cut (m := e) (by omega) (by omega)] at hh
    exact hh.symm
  have hBl : ((rg G (e - ((P.length : Int) + 1)).toNat ((P.length : Int) + 1)).length : Int) = e - ((P.length : Int) + 1) := by rw [rg_len]; omega
  refine ⟨_, _, f2, k1 + 1, hcut, tm_tL tb, ⟨by omega, by omega⟩, fun v hv => h1 v (by rw [hcut]; exact List.mem_append_left _ hv), fun r hr => ?_⟩
  have hs : abS (P ++ 1 :: H) (P ++ r ++ rg G (((P ++ 1 :: H).length : Int) - e).toNat e) r := by
    obtain ⟨g, f, hg, hab⟩ := hr
    have hab2 := ab_shift (g' := G) (o := (P.length : Int) + 1) (by omega) (fun j z y => by
      have := rg_at (g := g) (g' := G) (n := (e - ((P.length : Int) + 1)).toNat) (p := 0) (p' := (P.length : Int) + 1) (by rw [rg_len] at hg; exact hg.symm) j z (by omega)
      rw [show (0 : Int) + j = j by omega, Int.add_comm] at this
      exact this) hab
    rw [hBl, show (0 : Int) + ((P.length : Int) + 1) = (P.length : Int) + 1 by omega, show e - ((P.length : Int) + 1) + ((P.length : Int) + 1) = e by omega] at hab2
    refine ⟨G, P.length, e, f, hG, by omega, by omega, hq, fun j z y => ?_, ⟨f1, k1, tq⟩, hab2, ?_⟩
    · have := rg_in (g := G) (n := H.length) (p := (P.length : Int) + 1) (j := j) (by omega) (by omega)
      rw [hH] at this
      exact h1 _ this
    · rw [show ((P.length : Int)).toNat = P.length by omega, hP]
  obtain ⟨t3, n3, _⟩ := abS_facts t hs
  refine ⟨fun hl => ?_, fun hl => h2 1 none (Or.inr ⟨_, r, hs, Or.inl ⟨hl, rfl⟩⟩)⟩
  rw [List.append_assoc] at t3 hs
  refine ⟨t3, fun v hv => ?_, fun n o ho => h2 (n + 1) o (Or.inr ⟨_, r, hs, Or.inr ⟨hl, ho⟩⟩)⟩
  rcases List.mem_append.mp hv with h | h
  · exact n3 v h
  · exact h1 v (by rw [hcut]; exact List.mem_append_right _ h)
theorem frA_t {s s1 s2 : Nat → Int} {a a1 a2 : Nat → Int → Int} {c c1 c2 : Nat → cdt} (h : frA s a c s1 a1 c1) (h' : frA s1 a1 c1 s2 a2 c2) : frA s a c s2 a2 c2 := by
  obtain ⟨x1, x2, x3, x4, x5, x6, x7⟩ := h
  obtain ⟨y1, y2, y3, y4, y5, y6, y7⟩ := h'
  exact ⟨fun i hi => by rw [y1 i hi, x1 i hi], fun i i1 i2 i7 i8 => by rw [y2 i i1 i2 i7 i8, x2 i i1 i2 i7 i8], y3, y4, fun i i2 i3 => by rw [y5 i i2 i3, x5 i i2 i3], y6, y7⟩
set_option maxHeartbeats 4000000 in
set_option maxRecDepth 100000 in
theorem C_abs_l {d n : Nat} {kd pl : Nat → Nat} {M : List va_E} {Q : Option Value → List va_E → Nat → Nat → Prop} {j m : Nat} {y : cdt} {l : List Int} (hW : wf n kd pl) (h200 : al n kd pl 200) (hj : j < 38 ∧ al n kd pl (60 + 2 * j)) (hm : m < 38 ∧ al n kd pl (60 + 2 * m)) (hj2 : j ≠ 2) (hj3 : j ≠ 3) (hok : okx (rm j) y) (hy5 : y.1 ≤ 500) : ∀ (f : Nat) (i : Int) (s : Nat → Int) (a : Nat → Int → Int) (c : Nat → cdt) (H : List Int), -1 ≤ i → i < y.1 → c j = y → okx (rm 2) (c 2) → okx (rm 3) (c 3) → (∀ q, in32 (a 1 q)) → (∀ q, in32 (a 7 q)) → hdL s a H → abI l (rg y.2.2 (i + 1).toNat 0) H → (H = [] ∨ i + 1 < y.1) → (∀ s' a' c' H', frA s a c s' a' c' → hdL s' a' H' → abI l [] H' → pm_E none (d + 4) pm_mm95 60 [(0, .ref (pl 200)), (1, .ref (pl (60 + 2 * j))), (2, .ref (pl (60 + 2 * m))), (3, .int (iI 1))] [] (ch n kd pl s' a' c' M) 0 0 Q) → (∀ s' a' c', frA s a c s' a' c' → (∃ n, abR n l none) → pm_E none (d + 4) pm_mm95 60 [(0, .ref (pl 200)), (1, .ref (pl (60 + 2 * j))), (2, .ref (pl (60 + 2 * m))), (3, .int (iI 0))] [] (ch n kd pl s' a' c' M) 0 0 Q) → i + 1 < (f : Int) → pm_E none (d + 4) pm_mm95 17 [(0, .ref (pl 200)), (1, .ref (pl (60 + 2 * j))), (2, .ref (pl (60 + 2 * m))), (3, .int (iI 1)), (4, .int (iI i))] [] (ch n kd pl s a c M) 0 0 Q := by
  intro f
  induction f with
  | zero =>
    intro i s a c H hi0 hi1 hy ho2 ho3 hin1 hin7 hH hI hfirst k1 k0 hf
    exfalso; omega
  | succ f ih =>
    intro i s a c H hi0 hi1 hy ho2 ho3 hin1 hin7 hH hI hfirst k1 k0 hf
    obtain ⟨o1, o2, o3, o4⟩ := id hok
    obtain ⟨y1, y2, y3⟩ := id hH
    refine pm_e_sim pm_a95_17 rfl ?_
    show pm_E _ _ _ 19 [(0, .ref (pl 200)), (1, .ref (pl (60 + 2 * j))), (2, .ref (pl (60 + 2 * m))), (3, .int (iI 1)), (4, .int (iI i))] [.int (iI i)] _ _ _ _
    refine pm_i_lt (t := 60) pm_a95_19 rfl ⟨by omega, by omega⟩ (fun h_1 => ?_) (fun h_1 => ?_)
    · skip
      show pm_E _ _ _ 60 [(0, .ref (pl 200)), (1, .ref (pl (60 + 2 * j))), (2, .ref (pl (60 + 2 * m))), (3, .int (iI 1)), (4, .int (iI i))] [] _ _ _ _
      show pm_E _ _ _ 60 ([(0, .ref (pl 200)), (1, .ref (pl (60 + 2 * j))), (2, .ref (pl (60 + 2 * m))), (3, .int (iI 1))] ++ [(4, .int (iI i))]) [] _ _ _ _
      refine pm_e_more [(4, .int (iI i))] (show ([0, 1, 2, 3, 4] : List Nat).Nodup from by decide) ?_
      have e9 : i = -1 := by omega
      subst e9
      exact k1 s a c H ⟨fun _ _ => rfl, fun _ _ _ _ _ => rfl, hin1, hin7, fun _ _ _ => rfl, ho2, ho3⟩ hH hI
    · skip
      show pm_E _ _ _ 22 [(0, .ref (pl 200)), (1, .ref (pl (60 + 2 * j))), (2, .ref (pl (60 + 2 * m))), (3, .int (iI 1)), (4, .int (iI i))] [] _ _ _ _
      refine pm_e_sim pm_a95_22 rfl ?_
      show pm_E _ _ _ 23 [(0, .ref (pl 200)), (1, .ref (pl (60 + 2 * j))), (2, .ref (pl (60 + 2 * m))), (3, .int (iI 1)), (4, .int (iI i))] [.int (iI 1)] _ _ _ _
      refine pm_e_iff pm_a95_23 rfl (by decide +kernel) ?_
      show pm_E _ _ _ 26 [(0, .ref (pl 200)), (1, .ref (pl (60 + 2 * j))), (2, .ref (pl (60 + 2 * m))), (3, .int (iI 1)), (4, .int (iI i))] [] _ _ _ _
      refine pm_e_sim pm_a95_26 rfl ?_
      show pm_E _ _ _ 27 [(0, .ref (pl 200)), (1, .ref (pl (60 + 2 * j))), (2, .ref (pl (60 + 2 * m))), (3, .int (iI 1)), (4, .int (iI i))] [.ref (pl (60 + 2 * j))] _ _ _ _
      refine pm_e_sim pm_a95_27 rfl ?_
      show pm_E _ _ _ 29 [(0, .ref (pl 200)), (1, .ref (pl (60 + 2 * j))), (2, .ref (pl (60 + 2 * m))), (3, .int (iI 1)), (4, .int (iI i))] [.int (iI i), .ref (pl (60 + 2 * j))] _ _ _ _
      refine pm_i_callv (k := (pl (60 + 2 * j))) (T2 := pm_mm47) pm_a95_29 rfl rfl rfl (cg_o hj) ⟨Nat.le_of_ble_eq_true rfl, Nat.le_of_ble_eq_true rfl, rfl, by decide +kernel⟩ ?_
      show pm_E none _ _ 0 [(0, .ref (pl (60 + 2 * j))), (1, .int (iI i))] [] _ _ _ _
      refine C_at hW hj hy hok.1 hok.2.1 ⟨by omega, by omega⟩ ?_
      rw [atI_y (by omega) (by omega)]
      obtain ⟨_, _⟩ := hok.2.2.2 i
      show pm_E _ _ _ 32 [(0, .ref (pl 200)), (1, .ref (pl (60 + 2 * j))), (2, .ref (pl (60 + 2 * m))), (3, .int (iI 1)), (4, .int (iI i))] [.int (iI (y.2.2 i))] _ _ _ _
      refine pm_e_sim pm_a95_32 rfl ?_
      show pm_E _ _ _ 34 [(0, .ref (pl 200)), (1, .ref (pl (60 + 2 * j))), (2, .ref (pl (60 + 2 * m))), (3, .int (iI 1)), (4, .int (iI i)), (5, .int (iI (y.2.2 i)))] [] _ _ _ _
      refine pm_e_sim pm_a95_34 rfl ?_
      show pm_E _ _ _ 36 [(0, .ref (pl 200)), (1, .ref (pl (60 + 2 * j))), (2, .ref (pl (60 + 2 * m))), (3, .int (iI 1)), (4, .int (iI i)), (5, .int (iI (y.2.2 i)))] [.int (iI (y.2.2 i))] _ _ _ _
      refine pm_e_sim pm_a95_36 rfl ?_
      refine pm_e_top (y := iI 1) (by decide +kernel) ?_
      show pm_E _ _ _ 37 [(0, .ref (pl 200)), (1, .ref (pl (60 + 2 * j))), (2, .ref (pl (60 + 2 * m))), (3, .int (iI 1)), (4, .int (iI i)), (5, .int (iI (y.2.2 i)))] [.int (iI 1), .int (iI (y.2.2 i))] _ _ _ _
      refine pm_c_ne (t := 47) pm_a95_37 rfl ⟨by omega, by omega⟩ ⟨by omega, by omega⟩ (fun h_2 => ?_) (fun h_2 => ?_)
      · skip
        show pm_E _ _ _ 47 [(0, .ref (pl 200)), (1, .ref (pl (60 + 2 * j))), (2, .ref (pl (60 + 2 * m))), (3, .int (iI 1)), (4, .int (iI i)), (5, .int (iI (y.2.2 i)))] [] _ _ _ _
        refine pm_e_sim pm_a95_47 rfl ?_
        show pm_E _ _ _ 48 [(0, .ref (pl 200)), (1, .ref (pl (60 + 2 * j))), (2, .ref (pl (60 + 2 * m))), (3, .int (iI 1)), (4, .int (iI i)), (5, .int (iI (y.2.2 i)))] [.ref (pl 200)] _ _ _ _
        refine pm_e_sim pm_a95_48 rfl ?_
        show pm_E _ _ _ 50 [(0, .ref (pl 200)), (1, .ref (pl (60 + 2 * j))), (2, .ref (pl (60 + 2 * m))), (3, .int (iI 1)), (4, .int (iI i)), (5, .int (iI (y.2.2 i)))] [.int (iI (y.2.2 i)), .ref (pl 200)] _ _ _ _
        refine pm_i_callv (k := (pl 200)) (T2 := pm_mm103) pm_a95_50 rfl rfl rfl (cg_200 hW h200) ⟨Nat.le_of_ble_eq_true rfl, Nat.le_of_ble_eq_true rfl, rfl, by decide +kernel⟩ ?_
        show pm_E none _ _ 0 [(0, .ref (pl 200)), (1, .int (iI (y.2.2 i)))] [] _ _ _ _
        rw [rg_sn1 (by omega)] at hI
        have hI2 := abI_hold hI (by omega)
        refine C_hold hW h200 (by omega) (by omega) (fun hs => ?_) (fun hs => ?_)
        · skip
          show pm_E _ _ _ 53 [(0, .ref (pl 200)), (1, .ref (pl (60 + 2 * j))), (2, .ref (pl (60 + 2 * m))), (3, .int (iI 1)), (4, .int (iI i)), (5, .int (iI (y.2.2 i)))] [.int (iI 1)] _ _ _ _
          refine pm_e_sim pm_a95_53 rfl ?_
          show pm_E _ _ _ 54 [(0, .ref (pl 200)), (1, .ref (pl (60 + 2 * j))), (2, .ref (pl (60 + 2 * m))), (3, .int (iI 1)), (4, .int (iI i)), (5, .int (iI (y.2.2 i)))] [] _ _ _ _
          refine pm_e_inc (y := iI (i + (-1))) pm_a95_54 rfl (iI_add _ _) (by decide +kernel) rfl ?_
          show pm_E _ _ _ 57 [(0, .ref (pl 200)), (1, .ref (pl (60 + 2 * j))), (2, .ref (pl (60 + 2 * m))), (3, .int (iI 1)), (4, .int (iI (i + (-1)))), (5, .int (iI (y.2.2 i)))] [] _ _ _ _
          refine pm_e_goto pm_a95_57 rfl ?_
          show pm_E _ _ _ 17 [(0, .ref (pl 200)), (1, .ref (pl (60 + 2 * j))), (2, .ref (pl (60 + 2 * m))), (3, .int (iI 1)), (4, .int (iI (i + (-1)))), (5, .int (iI (y.2.2 i)))] [] _ _ _ _
          show pm_E _ _ _ 17 ([(0, .ref (pl 200)), (1, .ref (pl (60 + 2 * j))), (2, .ref (pl (60 + 2 * m))), (3, .int (iI 1)), (4, .int (iI (i + (-1))))] ++ [(5, .int (iI (y.2.2 i)))]) [] _ _ _ _
          refine pm_e_more [(5, .int (iI (y.2.2 i)))] (show ([0, 1, 2, 3, 4, 5] : List Nat).Nodup from by decide) ?_
          have fr : frA s a c (updS s 19 (s 19 - 1)) (updA a 7 (updI (a 7) (s 19 - 1) (y.2.2 i))) c := ⟨fun i hi => by unfold updS; rw [if_neg hi], fun i i1 i2 i7 i8 => by unfold updA; rw [if_neg i7], hin1, fun q => updI_in hin7 (hok.2.2.2 _) q, fun _ _ _ => rfl, ho2, ho3⟩
          exact ih _ _ _ c (y.2.2 i :: H) (by omega) (by omega) hy ho2 ho3 fr.2.2.1 fr.2.2.2.1 (hdL_cons _ hH hs) (by rw [show i + (-1) + 1 = i by omega]; exact hI2) (Or.inr (by omega)) (fun s2 a2 c2 H2 f2 => k1 s2 a2 c2 H2 (frA_t fr f2)) (fun s2 a2 c2 f2 => k0 s2 a2 c2 (frA_t fr f2)) (by omega)
        · skip
          show pm_E _ _ _ 53 [(0, .ref (pl 200)), (1, .ref (pl (60 + 2 * j))), (2, .ref (pl (60 + 2 * m))), (3, .int (iI 1)), (4, .int (iI i)), (5, .int (iI (y.2.2 i)))] [.int (iI 0)] _ _ _ _
          refine pm_e_sim pm_a95_53 rfl ?_
          show pm_E _ _ _ 54 [(0, .ref (pl 200)), (1, .ref (pl (60 + 2 * j))), (2, .ref (pl (60 + 2 * m))), (3, .int (iI 0)), (4, .int (iI i)), (5, .int (iI (y.2.2 i)))] [] _ _ _ _
          refine pm_e_inc (y := iI (i + (-1))) pm_a95_54 rfl (iI_add _ _) (by decide +kernel) rfl ?_
          show pm_E _ _ _ 57 [(0, .ref (pl 200)), (1, .ref (pl (60 + 2 * j))), (2, .ref (pl (60 + 2 * m))), (3, .int (iI 0)), (4, .int (iI (i + (-1)))), (5, .int (iI (y.2.2 i)))] [] _ _ _ _
          refine pm_e_goto pm_a95_57 rfl ?_
          show pm_E _ _ _ 17 [(0, .ref (pl 200)), (1, .ref (pl (60 + 2 * j))), (2, .ref (pl (60 + 2 * m))), (3, .int (iI 0)), (4, .int (iI (i + (-1)))), (5, .int (iI (y.2.2 i)))] [] _ _ _ _
          show pm_E _ _ _ 17 ([(0, .ref (pl 200)), (1, .ref (pl (60 + 2 * j))), (2, .ref (pl (60 + 2 * m))), (3, .int (iI 0)), (4, .int (iI (i + (-1))))] ++ [(5, .int (iI (y.2.2 i)))]) [] _ _ _ _
          refine pm_e_more [(5, .int (iI (y.2.2 i)))] (show ([0, 1, 2, 3, 4, 5] : List Nat).Nodup from by decide) ?_
          refine pm_e_sim pm_a95_17 rfl ?_
          show pm_E _ _ _ 19 [(0, .ref (pl 200)), (1, .ref (pl (60 + 2 * j))), (2, .ref (pl (60 + 2 * m))), (3, .int (iI 0)), (4, .int (iI (i + (-1))))] [.int (iI (i + (-1)))] _ _ _ _
          refine pm_i_lt (t := 60) pm_a95_19 rfl ⟨by omega, by omega⟩ (fun h_71 => ?_) (fun h_71 => ?_)
          · skip
            show pm_E _ _ _ 60 [(0, .ref (pl 200)), (1, .ref (pl (60 + 2 * j))), (2, .ref (pl (60 + 2 * m))), (3, .int (iI 0)), (4, .int (iI (i + (-1))))] [] _ _ _ _
            show pm_E _ _ _ 60 ([(0, .ref (pl 200)), (1, .ref (pl (60 + 2 * j))), (2, .ref (pl (60 + 2 * m))), (3, .int (iI 0))] ++ [(4, .int (iI (i + (-1))))]) [] _ _ _ _
            refine pm_e_more [(4, .int (iI (i + (-1))))] (show ([0, 1, 2, 3, 4] : List Nat).Nodup from by decide) ?_
            refine k0 s a c ⟨fun _ _ => rfl, fun _ _ _ _ _ => rfl, hin1, hin7, fun _ _ _ => rfl, ho2, ho3⟩ (abI_big hI ?_)
            rw [List.length_append, rg_len, List.length_singleton]
            rcases hfirst with h | h
            · rw [h] at y2
              simp at y2
              omega
            · omega
          · skip
            show pm_E _ _ _ 22 [(0, .ref (pl 200)), (1, .ref (pl (60 + 2 * j))), (2, .ref (pl (60 + 2 * m))), (3, .int (iI 0)), (4, .int (iI (i + (-1))))] [] _ _ _ _
            refine pm_e_sim pm_a95_22 rfl ?_
            show pm_E _ _ _ 23 [(0, .ref (pl 200)), (1, .ref (pl (60 + 2 * j))), (2, .ref (pl (60 + 2 * m))), (3, .int (iI 0)), (4, .int (iI (i + (-1))))] [.int (iI 0)] _ _ _ _
            refine pm_e_ift pm_a95_23 rfl (by decide +kernel) ?_
            show pm_E _ _ _ 60 [(0, .ref (pl 200)), (1, .ref (pl (60 + 2 * j))), (2, .ref (pl (60 + 2 * m))), (3, .int (iI 0)), (4, .int (iI (i + (-1))))] [] _ _ _ _
            show pm_E _ _ _ 60 ([(0, .ref (pl 200)), (1, .ref (pl (60 + 2 * j))), (2, .ref (pl (60 + 2 * m))), (3, .int (iI 0))] ++ [(4, .int (iI (i + (-1))))]) [] _ _ _ _
            refine pm_e_more [(4, .int (iI (i + (-1))))] (show ([0, 1, 2, 3, 4] : List Nat).Nodup from by decide) ?_
            refine k0 s a c ⟨fun _ _ => rfl, fun _ _ _ _ _ => rfl, hin1, hin7, fun _ _ _ => rfl, ho2, ho3⟩ (abI_big hI ?_)
            rw [List.length_append, rg_len, List.length_singleton]
            rcases hfirst with h | h
            · rw [h] at y2
              simp at y2
              omega
            · omega
      · skip
        show pm_E _ _ _ 40 [(0, .ref (pl 200)), (1, .ref (pl (60 + 2 * j))), (2, .ref (pl (60 + 2 * m))), (3, .int (iI 1)), (4, .int (iI i)), (5, .int (iI (y.2.2 i)))] [] _ _ _ _
        refine pm_e_sim pm_a95_40 rfl ?_
        show pm_E _ _ _ 41 [(0, .ref (pl 200)), (1, .ref (pl (60 + 2 * j))), (2, .ref (pl (60 + 2 * m))), (3, .int (iI 1)), (4, .int (iI i)), (5, .int (iI (y.2.2 i)))] [.ref (pl 200)] _ _ _ _
        refine pm_i_callv (k := (pl 200)) (T2 := pm_mm96) pm_a95_41 rfl rfl rfl (cg_200 hW h200) ⟨Nat.le_of_ble_eq_true rfl, Nat.le_of_ble_eq_true rfl, rfl, by decide +kernel⟩ ?_
        show pm_E none _ _ 0 [(0, .ref (pl 200))] [] _ _ _ _
        rw [rg_sn1 (by omega), show y.2.2 i = 1 by omega] at hI
        obtain ⟨B, R, F, kk, eH, tB, hk, nB, hR⟩ := abI_lam hI
        subst eH
        rw [rg_len] at hk
        refine C_takeLambdaOut hW h200 hin1 hin7 ho2 ho3 hH tB ⟨hk.1, by omega⟩ nB (fun s1 a1 c1 r fr z1 z2 z3 => ?_) (fun s1 a1 c1 r fr z2 z3 => ?_)
        · skip
          show pm_E _ _ _ 44 [(0, .ref (pl 200)), (1, .ref (pl (60 + 2 * j))), (2, .ref (pl (60 + 2 * m))), (3, .int (iI 1)), (4, .int (iI i)), (5, .int (iI (y.2.2 i)))] [.int (iI 1)] _ _ _ _
          refine pm_e_goto pm_a95_44 rfl ?_
          show pm_E _ _ _ 53 [(0, .ref (pl 200)), (1, .ref (pl (60 + 2 * j))), (2, .ref (pl (60 + 2 * m))), (3, .int (iI 1)), (4, .int (iI i)), (5, .int (iI (y.2.2 i)))] [.int (iI 1)] _ _ _ _
          refine pm_e_sim pm_a95_53 rfl ?_
          show pm_E _ _ _ 54 [(0, .ref (pl 200)), (1, .ref (pl (60 + 2 * j))), (2, .ref (pl (60 + 2 * m))), (3, .int (iI 1)), (4, .int (iI i)), (5, .int (iI (y.2.2 i)))] [] _ _ _ _
          refine pm_e_inc (y := iI (i + (-1))) pm_a95_54 rfl (iI_add _ _) (by decide +kernel) rfl ?_
          show pm_E _ _ _ 57 [(0, .ref (pl 200)), (1, .ref (pl (60 + 2 * j))), (2, .ref (pl (60 + 2 * m))), (3, .int (iI 1)), (4, .int (iI (i + (-1)))), (5, .int (iI (y.2.2 i)))] [] _ _ _ _
          refine pm_e_goto pm_a95_57 rfl ?_
          show pm_E _ _ _ 17 [(0, .ref (pl 200)), (1, .ref (pl (60 + 2 * j))), (2, .ref (pl (60 + 2 * m))), (3, .int (iI 1)), (4, .int (iI (i + (-1)))), (5, .int (iI (y.2.2 i)))] [] _ _ _ _
          show pm_E _ _ _ 17 ([(0, .ref (pl 200)), (1, .ref (pl (60 + 2 * j))), (2, .ref (pl (60 + 2 * m))), (3, .int (iI 1)), (4, .int (iI (i + (-1))))] ++ [(5, .int (iI (y.2.2 i)))]) [] _ _ _ _
          refine pm_e_more [(5, .int (iI (y.2.2 i)))] (show ([0, 1, 2, 3, 4, 5] : List Nat).Nodup from by decide) ?_
          exact ih _ s1 a1 c1 (r ++ R) (by omega) (by omega) (by rw [fr.2.2.2.2.1 j hj2 hj3]; exact hy) fr.2.2.2.2.2.1 fr.2.2.2.2.2.2 fr.2.2.1 fr.2.2.2.1 z1 (by rw [show i + (-1) + 1 = i by omega]; exact (hR r z2).1 z3) (Or.inr (by omega)) (fun s2 a2 c2 H2 f2 => k1 s2 a2 c2 H2 (frA_t fr f2)) (fun s2 a2 c2 f2 => k0 s2 a2 c2 (frA_t fr f2)) (by omega)
        · skip
          show pm_E _ _ _ 44 [(0, .ref (pl 200)), (1, .ref (pl (60 + 2 * j))), (2, .ref (pl (60 + 2 * m))), (3, .int (iI 1)), (4, .int (iI i)), (5, .int (iI (y.2.2 i)))] [.int (iI 0)] _ _ _ _
          refine pm_e_goto pm_a95_44 rfl ?_
          show pm_E _ _ _ 53 [(0, .ref (pl 200)), (1, .ref (pl (60 + 2 * j))), (2, .ref (pl (60 + 2 * m))), (3, .int (iI 1)), (4, .int (iI i)), (5, .int (iI (y.2.2 i)))] [.int (iI 0)] _ _ _ _
          refine pm_e_sim pm_a95_53 rfl ?_
          show pm_E _ _ _ 54 [(0, .ref (pl 200)), (1, .ref (pl (60 + 2 * j))), (2, .ref (pl (60 + 2 * m))), (3, .int (iI 0)), (4, .int (iI i)), (5, .int (iI (y.2.2 i)))] [] _ _ _ _
          refine pm_e_inc (y := iI (i + (-1))) pm_a95_54 rfl (iI_add _ _) (by decide +kernel) rfl ?_
          show pm_E _ _ _ 57 [(0, .ref (pl 200)), (1, .ref (pl (60 + 2 * j))), (2, .ref (pl (60 + 2 * m))), (3, .int (iI 0)), (4, .int (iI (i + (-1)))), (5, .int (iI (y.2.2 i)))] [] _ _ _ _
          refine pm_e_goto pm_a95_57 rfl ?_
          show pm_E _ _ _ 17 [(0, .ref (pl 200)), (1, .ref (pl (60 + 2 * j))), (2, .ref (pl (60 + 2 * m))), (3, .int (iI 0)), (4, .int (iI (i + (-1)))), (5, .int (iI (y.2.2 i)))] [] _ _ _ _
          show pm_E _ _ _ 17 ([(0, .ref (pl 200)), (1, .ref (pl (60 + 2 * j))), (2, .ref (pl (60 + 2 * m))), (3, .int (iI 0)), (4, .int (iI (i + (-1))))] ++ [(5, .int (iI (y.2.2 i)))]) [] _ _ _ _
          refine pm_e_more [(5, .int (iI (y.2.2 i)))] (show ([0, 1, 2, 3, 4, 5] : List Nat).Nodup from by decide) ?_
          refine pm_e_sim pm_a95_17 rfl ?_
          show pm_E _ _ _ 19 [(0, .ref (pl 200)), (1, .ref (pl (60 + 2 * j))), (2, .ref (pl (60 + 2 * m))), (3, .int (iI 0)), (4, .int (iI (i + (-1))))] [.int (iI (i + (-1)))] _ _ _ _
          refine pm_i_lt (t := 60) pm_a95_19 rfl ⟨by omega, by omega⟩ (fun h_71 => ?_) (fun h_71 => ?_)
          · skip
            show pm_E _ _ _ 60 [(0, .ref (pl 200)), (1, .ref (pl (60 + 2 * j))), (2, .ref (pl (60 + 2 * m))), (3, .int (iI 0)), (4, .int (iI (i + (-1))))] [] _ _ _ _
            show pm_E _ _ _ 60 ([(0, .ref (pl 200)), (1, .ref (pl (60 + 2 * j))), (2, .ref (pl (60 + 2 * m))), (3, .int (iI 0))] ++ [(4, .int (iI (i + (-1))))]) [] _ _ _ _
            refine pm_e_more [(4, .int (iI (i + (-1))))] (show ([0, 1, 2, 3, 4] : List Nat).Nodup from by decide) ?_
            refine k0 s1 a1 c1 fr ?_
            rcases z3 with z3 | ⟨z3, z4⟩
            · exact (hR r z2).2 z3
            · exact abI_big ((hR r z2).1 z3) (by rw [rg_len, List.length_append]; omega)
          · skip
            show pm_E _ _ _ 22 [(0, .ref (pl 200)), (1, .ref (pl (60 + 2 * j))), (2, .ref (pl (60 + 2 * m))), (3, .int (iI 0)), (4, .int (iI (i + (-1))))] [] _ _ _ _
            refine pm_e_sim pm_a95_22 rfl ?_
            show pm_E _ _ _ 23 [(0, .ref (pl 200)), (1, .ref (pl (60 + 2 * j))), (2, .ref (pl (60 + 2 * m))), (3, .int (iI 0)), (4, .int (iI (i + (-1))))] [.int (iI 0)] _ _ _ _
            refine pm_e_ift pm_a95_23 rfl (by decide +kernel) ?_
            show pm_E _ _ _ 60 [(0, .ref (pl 200)), (1, .ref (pl (60 + 2 * j))), (2, .ref (pl (60 + 2 * m))), (3, .int (iI 0)), (4, .int (iI (i + (-1))))] [] _ _ _ _
            show pm_E _ _ _ 60 ([(0, .ref (pl 200)), (1, .ref (pl (60 + 2 * j))), (2, .ref (pl (60 + 2 * m))), (3, .int (iI 0))] ++ [(4, .int (iI (i + (-1))))]) [] _ _ _ _
            refine pm_e_more [(4, .int (iI (i + (-1))))] (show ([0, 1, 2, 3, 4] : List Nat).Nodup from by decide) ?_
            refine k0 s1 a1 c1 fr ?_
            rcases z3 with z3 | ⟨z3, z4⟩
            · exact (hR r z2).2 z3
            · exact abI_big ((hR r z2).1 z3) (by rw [rg_len, List.length_append]; omega)
