/-! THE CLASS: Teller: it ends and leaves the rest as it is -/
def teO (s : Nat → Int) : Prop := (0 ≤ s 14 ∧ s 14 < 2147483648) ∧ in32 (s 15) ∧ in32 (s 16) ∧ in32 (s 17) ∧ in32 (s 18)
def teF (s : Nat → Int) (a : Nat → Int → Int) (s' : Nat → Int) (a' : Nat → Int → Int) : Prop := (∀ i, i < 14 ∨ 18 < i → s' i = s i) ∧ (∀ i, i ≠ 6 → a' i = a i) ∧ teO s'
section
variable {s s1 s2 : Nat → Int} {a a1 a2 : Nat → Int → Int} {v : Int}
theorem teF_r (h : teO s) : teF s a s a := ⟨fun _ _ => rfl, fun _ _ => rfl, h⟩
theorem teF_t (h : teF s a s1 a1) (h' : teF s1 a1 s2 a2) : teF s a s2 a2 := ⟨fun i hi => by rw [h'.1 i hi, h.1 i hi], fun i hi => by rw [h'.2.1 i hi, h.2.1 i hi], h'.2.2⟩
theorem teF_a {g : Int → Int} (h : teF s a s1 a1) : teF s a s1 (updA a1 6 g) := ⟨h.1, fun i hi => by rw [← h.2.1 i hi]; unfold updA; rw [if_neg hi], h.2.2⟩
theorem teF_p14 (h : teF s a s1 a1) (hv : 0 ≤ v ∧ v < 2147483648) : teF s a (updS s1 14 v) a1 := ⟨fun i hi => by rw [← h.1 i hi]; unfold updS; rw [if_neg (by omega)], h.2.1, hv, h.2.2.2.1, h.2.2.2.2.1, h.2.2.2.2.2.1, h.2.2.2.2.2.2⟩
theorem teF_p15 (h : teF s a s1 a1) (hv : in32 v) : teF s a (updS s1 15 v) a1 := ⟨fun i hi => by rw [← h.1 i hi]; unfold updS; rw [if_neg (by omega)], h.2.1, h.2.2.1, hv, h.2.2.2.2.1, h.2.2.2.2.2.1, h.2.2.2.2.2.2⟩
theorem teF_p16 (h : teF s a s1 a1) (hv : in32 v) : teF s a (updS s1 16 v) a1 := ⟨fun i hi => by rw [← h.1 i hi]; unfold updS; rw [if_neg (by omega)], h.2.1, h.2.2.1, h.2.2.2.1, hv, h.2.2.2.2.2.1, h.2.2.2.2.2.2⟩
theorem teF_p17 (h : teF s a s1 a1) (hv : in32 v) : teF s a (updS s1 17 v) a1 := ⟨fun i hi => by rw [← h.1 i hi]; unfold updS; rw [if_neg (by omega)], h.2.1, h.2.2.1, h.2.2.2.1, h.2.2.2.2.1, hv, h.2.2.2.2.2.2⟩
theorem teF_p18 (h : teF s a s1 a1) (hv : in32 v) : teF s a (updS s1 18 v) a1 := ⟨fun i hi => by rw [← h.1 i hi]; unfold updS; rw [if_neg (by omega)], h.2.1, h.2.2.1, h.2.2.2.1, h.2.2.2.2.1, h.2.2.2.2.2.1, hv⟩
end
set_option maxHeartbeats 4000000 in
set_option maxRecDepth 100000 in
theorem C_e_tell {d n : Nat} {kd pl : Nat → Nat} {s : Nat → Int} {a : Nat → Int → Int} {c : Nat → cdt} {M : List va_E} {Q : Option Value → List va_E → Nat → Nat → Prop} {x : Int} (hW : wf n kd pl) (ho : teO s) (hx : in32 x) (k : ∀ s' a', teF s a s' a' → Q none (ch n kd pl s' a' c M) 0 0) : pm_E none d pm_mm52 0 [(0, .ref (pl 13)), (1, .int (iI x))] [] (ch n kd pl s a c M) 0 0 Q := by
  obtain ⟨⟨_, _⟩, ⟨_, _⟩, ⟨_, _⟩, ⟨_, _⟩, ⟨_, _⟩⟩ := id ho
  obtain ⟨_, _⟩ := id hx
  refine pm_e_sim pm_a52_0 rfl ?_
  show pm_E _ _ _ 1 [(0, .ref (pl 13)), (1, .int (iI x))] [.ref (pl 13)] _ _ _ _
  refine pm_i_get pm_a52_1 rfl (cg_13 hW) rfl ?_
  show pm_E _ _ _ 4 [(0, .ref (pl 13)), (1, .int (iI x))] [.int (iI (s 17))] _ _ _ _
  refine pm_e_sim pm_a52_4 rfl ?_
  show pm_E _ _ _ 5 [(0, .ref (pl 13)), (1, .int (iI x))] [.ref (pl 13), .int (iI (s 17))] _ _ _ _
  refine pm_i_get pm_a52_5 rfl (cg_13 hW) rfl ?_
  show pm_E _ _ _ 8 [(0, .ref (pl 13)), (1, .int (iI x))] [.int (iI (s 16)), .int (iI (s 17))] _ _ _ _
  refine pm_c_ne (t := 16) pm_a52_8 rfl ⟨by omega, by omega⟩ ⟨by omega, by omega⟩ (fun h_1 => ?_) (fun h_1 => ?_)
  · skip
    show pm_E _ _ _ 16 [(0, .ref (pl 13)), (1, .int (iI x))] [] _ _ _ _
    refine pm_e_sim pm_a52_16 rfl ?_
    show pm_E _ _ _ 17 [(0, .ref (pl 13)), (1, .int (iI x))] [.ref (pl 13)] _ _ _ _
    refine pm_e_sim pm_a52_17 rfl ?_
    show pm_E _ _ _ 18 [(0, .ref (pl 13)), (1, .int (iI x))] [.ref (pl 13), .ref (pl 13)] _ _ _ _
    refine pm_i_get pm_a52_18 rfl (cg_13 hW) rfl ?_
    show pm_E _ _ _ 21 [(0, .ref (pl 13)), (1, .int (iI x))] [.int (iI (s 17)), .ref (pl 13)] _ _ _ _
    refine pm_e_sim pm_a52_21 rfl ?_
    refine pm_e_top (y := iI 1) (by decide +kernel) ?_
    show pm_E _ _ _ 22 [(0, .ref (pl 13)), (1, .int (iI x))] [.int (iI 1), .int (iI (s 17)), .ref (pl 13)] _ _ _ _
    refine pm_e_sim pm_a52_22 rfl ?_
    refine pm_e_top (y := iI (s 17 + 1)) (iI_add _ _) ?_
    refine pm_e_hav (fun z_2 bz_2 => ?_)
    obtain ⟨_, _⟩ := bz_2
    show pm_E _ _ _ 23 [(0, .ref (pl 13)), (1, .int (iI x))] [.int (iI z_2), .ref (pl 13)] _ _ _ _
    refine pm_i_put pm_a52_23 rfl (cg_13 hW) rfl (Nat.le_of_ble_eq_true rfl) (Or.inl rfl) (cw_17 hW z_2) ?_
    show pm_E _ _ _ 26 [(0, .ref (pl 13)), (1, .int (iI x))] [] _ _ _ _
    refine pm_e_ret pm_a52_26 rfl rfl rfl rfl rfl rfl rfl rfl ?_
    exact k _ _ (teF_p17 (v := z_2) (teF_r (a := a) ho) ⟨by omega, by omega⟩)
  · skip
    show pm_E _ _ _ 11 [(0, .ref (pl 13)), (1, .int (iI x))] [] _ _ _ _
    refine pm_e_sim pm_a52_11 rfl ?_
    show pm_E _ _ _ 12 [(0, .ref (pl 13)), (1, .int (iI x))] [.ref (pl 13)] _ _ _ _
    refine pm_e_sim pm_a52_12 rfl ?_
    show pm_E _ _ _ 13 [(0, .ref (pl 13)), (1, .int (iI x))] [.int (iI x), .ref (pl 13)] _ _ _ _
    refine pm_i_put pm_a52_13 rfl (cg_13 hW) rfl (Nat.le_of_ble_eq_true rfl) (Or.inl rfl) (cw_18 hW x) ?_
    show pm_E _ _ _ 16 [(0, .ref (pl 13)), (1, .int (iI x))] [] _ _ _ _
    refine pm_e_sim pm_a52_16 rfl ?_
    show pm_E _ _ _ 17 [(0, .ref (pl 13)), (1, .int (iI x))] [.ref (pl 13)] _ _ _ _
    refine pm_e_sim pm_a52_17 rfl ?_
    show pm_E _ _ _ 18 [(0, .ref (pl 13)), (1, .int (iI x))] [.ref (pl 13), .ref (pl 13)] _ _ _ _
    refine pm_i_get pm_a52_18 rfl (cg_13 hW) rfl ?_
    show pm_E _ _ _ 21 [(0, .ref (pl 13)), (1, .int (iI x))] [.int (iI (s 17)), .ref (pl 13)] _ _ _ _
    refine pm_e_sim pm_a52_21 rfl ?_
    refine pm_e_top (y := iI 1) (by decide +kernel) ?_
    show pm_E _ _ _ 22 [(0, .ref (pl 13)), (1, .int (iI x))] [.int (iI 1), .int (iI (s 17)), .ref (pl 13)] _ _ _ _
    refine pm_e_sim pm_a52_22 rfl ?_
    refine pm_e_top (y := iI (s 17 + 1)) (iI_add _ _) ?_
    refine pm_e_hav (fun z_3 bz_3 => ?_)
    obtain ⟨_, _⟩ := bz_3
    show pm_E _ _ _ 23 [(0, .ref (pl 13)), (1, .int (iI x))] [.int (iI z_3), .ref (pl 13)] _ _ _ _
    refine pm_i_put pm_a52_23 rfl (cg_13 hW) rfl (Nat.le_of_ble_eq_true rfl) (Or.inl rfl) (cw_17 hW z_3) ?_
    show pm_E _ _ _ 26 [(0, .ref (pl 13)), (1, .int (iI x))] [] _ _ _ _
    refine pm_e_ret pm_a52_26 rfl rfl rfl rfl rfl rfl rfl rfl ?_
    exact k _ _ (teF_p17 (v := z_3) (teF_p18 (v := x) (teF_r (a := a) ho) ⟨by omega, by omega⟩) ⟨by omega, by omega⟩)
set_option maxHeartbeats 4000000 in
set_option maxRecDepth 100000 in
theorem C_e_isWrapped {d n : Nat} {kd pl : Nat → Nat} {s : Nat → Int} {a : Nat → Int → Int} {c : Nat → cdt} {M : List va_E} {Q : Option Value → List va_E → Nat → Nat → Prop} {x : Int} (hW : wf n kd pl) (ho : teO s) (hx : in32 x) (k1 : Q (some (.int (iI 1))) (ch n kd pl s a c M) 0 0) (k0 : Q (some (.int (iI 0))) (ch n kd pl s a c M) 0 0) : pm_E none d pm_mm51 0 [(0, .ref (pl 13)), (1, .int (iI x))] [] (ch n kd pl s a c M) 0 0 Q := by
  obtain ⟨⟨_, _⟩, ⟨_, _⟩, ⟨_, _⟩, ⟨_, _⟩, ⟨_, _⟩⟩ := id ho
  obtain ⟨_, _⟩ := id hx
  refine pm_e_sim pm_a51_0 rfl ?_
  show pm_E _ _ _ 1 [(0, .ref (pl 13)), (1, .int (iI x))] [.ref (pl 13)] _ _ _ _
  refine pm_i_get pm_a51_1 rfl (cg_13 hW) rfl ?_
  show pm_E _ _ _ 4 [(0, .ref (pl 13)), (1, .int (iI x))] [.int (iI (s 14))] _ _ _ _
  refine pm_i_le (t := 19) pm_a51_4 rfl ⟨by omega, by omega⟩ (fun h_1 => ?_) (fun h_1 => ?_)
  · skip
    show pm_E _ _ _ 19 [(0, .ref (pl 13)), (1, .int (iI x))] [] _ _ _ _
    refine pm_e_sim pm_a51_19 rfl ?_
    refine pm_e_top (y := iI 0) (by decide +kernel) ?_
    show pm_E _ _ _ 20 [(0, .ref (pl 13)), (1, .int (iI x))] [.int (iI 0)] _ _ _ _
    refine pm_e_ret pm_a51_20 rfl rfl rfl rfl rfl rfl rfl rfl ?_
    exact k0
  · skip
    show pm_E _ _ _ 7 [(0, .ref (pl 13)), (1, .int (iI x))] [] _ _ _ _
    refine pm_e_sim pm_a51_7 rfl ?_
    show pm_E _ _ _ 8 [(0, .ref (pl 13)), (1, .int (iI x))] [.ref (pl 13)] _ _ _ _
    refine pm_i_get pm_a51_8 rfl (cg_13 hW) rfl ?_
    show pm_E _ _ _ 11 [(0, .ref (pl 13)), (1, .int (iI x))] [.int (iI (s 14))] _ _ _ _
    refine pm_e_sim pm_a51_11 rfl ?_
    show pm_E _ _ _ 12 [(0, .ref (pl 13)), (1, .int (iI x))] [.ref (pl 13), .int (iI (s 14))] _ _ _ _
    refine pm_i_get pm_a51_12 rfl (cg_13 hW) rfl ?_
    show pm_E _ _ _ 15 [(0, .ref (pl 13)), (1, .int (iI x))] [.ref (pl 14), .int (iI (s 14))] _ _ _ _
    refine pm_i_aln pm_a51_15 (cg_14 hW) ?_
    show pm_E _ _ _ 16 [(0, .ref (pl 13)), (1, .int (iI x))] [.int (iI 500), .int (iI (s 14))] _ _ _ _
    refine pm_c_le (t := 21) pm_a51_16 rfl ⟨by omega, by omega⟩ ⟨by omega, by omega⟩ (fun h_2 => ?_) (fun h_2 => ?_)
    · skip
      show pm_E _ _ _ 21 [(0, .ref (pl 13)), (1, .int (iI x))] [] _ _ _ _
      refine pm_e_sim pm_a51_21 rfl ?_
      show pm_E _ _ _ 22 [(0, .ref (pl 13)), (1, .int (iI x))] [.ref (pl 13)] _ _ _ _
      refine pm_i_get pm_a51_22 rfl (cg_13 hW) rfl ?_
      show pm_E _ _ _ 25 [(0, .ref (pl 13)), (1, .int (iI x))] [.ref (pl 14)] _ _ _ _
      refine pm_e_sim pm_a51_25 rfl ?_
      show pm_E _ _ _ 26 [(0, .ref (pl 13)), (1, .int (iI x))] [.ref (pl 13), .ref (pl 14)] _ _ _ _
      refine pm_i_get pm_a51_26 rfl (cg_13 hW) rfl ?_
      show pm_E _ _ _ 29 [(0, .ref (pl 13)), (1, .int (iI x))] [.int (iI (s 14)), .ref (pl 14)] _ _ _ _
      refine pm_e_sim pm_a51_29 rfl ?_
      refine pm_e_top (y := iI 1) (by decide +kernel) ?_
      show pm_E _ _ _ 30 [(0, .ref (pl 13)), (1, .int (iI x))] [.int (iI 1), .int (iI (s 14)), .ref (pl 14)] _ _ _ _
      refine pm_e_sim pm_a51_30 rfl ?_
      refine pm_e_top (y := iI (s 14 - 1)) (iI_sub _ _) ?_
      show pm_E _ _ _ 31 [(0, .ref (pl 13)), (1, .int (iI x))] [.int (iI (s 14 - 1)), .ref (pl 14)] _ _ _ _
      refine pm_i_ald pm_a51_31 (cg_14 hW) (by omega) (by omega) ⟨by omega, by omega⟩ ?_
      show pm_E _ _ _ 32 [(0, .ref (pl 13)), (1, .int (iI x))] [.int (iI ((a 6) (s 14 - 1)))] _ _ _ _
      refine pm_e_sim pm_a51_32 rfl ?_
      refine pm_e_top (y := iI (-5)) (by decide +kernel) ?_
      show pm_E _ _ _ 34 [(0, .ref (pl 13)), (1, .int (iI x))] [.int (iI (-5)), .int (iI ((a 6) (s 14 - 1)))] _ _ _ _
      refine pm_e_sim pm_a51_34 rfl ?_
      refine pm_e_hav (fun z_3 bz_3 => ?_)
      obtain ⟨_, _⟩ := bz_3
      show pm_E _ _ _ 35 [(0, .ref (pl 13)), (1, .int (iI x))] [.int (iI z_3)] _ _ _ _
      refine pm_e_sim pm_a51_35 rfl ?_
      show pm_E _ _ _ 36 [(0, .ref (pl 13)), (1, .int (iI x)), (2, .int (iI z_3))] [] _ _ _ _
      refine pm_e_sim pm_a51_36 rfl ?_
      show pm_E _ _ _ 37 [(0, .ref (pl 13)), (1, .int (iI x)), (2, .int (iI z_3))] [.int (iI z_3)] _ _ _ _
      refine pm_i_ne (t := 45) pm_a51_37 rfl ⟨by omega, by omega⟩ (fun h_4 => ?_) (fun h_4 => ?_)
      · skip
        show pm_E _ _ _ 45 [(0, .ref (pl 13)), (1, .int (iI x)), (2, .int (iI z_3))] [] _ _ _ _
        refine pm_e_sim pm_a51_45 rfl ?_
        show pm_E _ _ _ 46 [(0, .ref (pl 13)), (1, .int (iI x)), (2, .int (iI z_3))] [.int (iI z_3)] _ _ _ _
        refine pm_e_sim pm_a51_46 rfl ?_
        refine pm_e_top (y := iI 1) (by decide +kernel) ?_
        show pm_E _ _ _ 47 [(0, .ref (pl 13)), (1, .int (iI x)), (2, .int (iI z_3))] [.int (iI 1), .int (iI z_3)] _ _ _ _
        refine pm_c_ne (t := 63) pm_a51_47 rfl ⟨by omega, by omega⟩ ⟨by omega, by omega⟩ (fun h_5 => ?_) (fun h_5 => ?_)
        · skip
          show pm_E _ _ _ 63 [(0, .ref (pl 13)), (1, .int (iI x)), (2, .int (iI z_3))] [] _ _ _ _
          refine pm_e_sim pm_a51_63 rfl ?_
          refine pm_e_top (y := iI 0) (by decide +kernel) ?_
          show pm_E _ _ _ 64 [(0, .ref (pl 13)), (1, .int (iI x)), (2, .int (iI z_3))] [.int (iI 0)] _ _ _ _
          refine pm_e_ret pm_a51_64 rfl rfl rfl rfl rfl rfl rfl rfl ?_
          exact k0
        · skip
          show pm_E _ _ _ 50 [(0, .ref (pl 13)), (1, .int (iI x)), (2, .int (iI z_3))] [] _ _ _ _
          refine pm_e_sim pm_a51_50 rfl ?_
          show pm_E _ _ _ 51 [(0, .ref (pl 13)), (1, .int (iI x)), (2, .int (iI z_3))] [.int (iI x)] _ _ _ _
          refine pm_e_sim pm_a51_51 rfl ?_
          refine pm_e_top (y := iI 1) (by decide +kernel) ?_
          show pm_E _ _ _ 52 [(0, .ref (pl 13)), (1, .int (iI x)), (2, .int (iI z_3))] [.int (iI 1), .int (iI x)] _ _ _ _
          refine pm_c_eq (t := 59) pm_a51_52 rfl ⟨by omega, by omega⟩ ⟨by omega, by omega⟩ (fun h_6 => ?_) (fun h_6 => ?_)
          · skip
            show pm_E _ _ _ 59 [(0, .ref (pl 13)), (1, .int (iI x)), (2, .int (iI z_3))] [] _ _ _ _
            refine pm_e_sim pm_a51_59 rfl ?_
            refine pm_e_top (y := iI 1) (by decide +kernel) ?_
            show pm_E _ _ _ 60 [(0, .ref (pl 13)), (1, .int (iI x)), (2, .int (iI z_3))] [.int (iI 1)] _ _ _ _
            refine pm_e_goto pm_a51_60 rfl ?_
            show pm_E _ _ _ 64 [(0, .ref (pl 13)), (1, .int (iI x)), (2, .int (iI z_3))] [.int (iI 1)] _ _ _ _
            refine pm_e_ret pm_a51_64 rfl rfl rfl rfl rfl rfl rfl rfl ?_
            exact k1
          · skip
            show pm_E _ _ _ 55 [(0, .ref (pl 13)), (1, .int (iI x)), (2, .int (iI z_3))] [] _ _ _ _
            refine pm_e_sim pm_a51_55 rfl ?_
            show pm_E _ _ _ 56 [(0, .ref (pl 13)), (1, .int (iI x)), (2, .int (iI z_3))] [.int (iI x)] _ _ _ _
            refine pm_i_ne (t := 63) pm_a51_56 rfl ⟨by omega, by omega⟩ (fun h_7 => ?_) (fun h_7 => ?_)
            · skip
              show pm_E _ _ _ 63 [(0, .ref (pl 13)), (1, .int (iI x)), (2, .int (iI z_3))] [] _ _ _ _
              refine pm_e_sim pm_a51_63 rfl ?_
              refine pm_e_top (y := iI 0) (by decide +kernel) ?_
              show pm_E _ _ _ 64 [(0, .ref (pl 13)), (1, .int (iI x)), (2, .int (iI z_3))] [.int (iI 0)] _ _ _ _
              refine pm_e_ret pm_a51_64 rfl rfl rfl rfl rfl rfl rfl rfl ?_
              exact k0
            · skip
              show pm_E _ _ _ 59 [(0, .ref (pl 13)), (1, .int (iI x)), (2, .int (iI z_3))] [] _ _ _ _
              refine pm_e_sim pm_a51_59 rfl ?_
              refine pm_e_top (y := iI 1) (by decide +kernel) ?_
              show pm_E _ _ _ 60 [(0, .ref (pl 13)), (1, .int (iI x)), (2, .int (iI z_3))] [.int (iI 1)] _ _ _ _
              refine pm_e_goto pm_a51_60 rfl ?_
              show pm_E _ _ _ 64 [(0, .ref (pl 13)), (1, .int (iI x)), (2, .int (iI z_3))] [.int (iI 1)] _ _ _ _
              refine pm_e_ret pm_a51_64 rfl rfl rfl rfl rfl rfl rfl rfl ?_
              exact k1
      · skip
        show pm_E _ _ _ 40 [(0, .ref (pl 13)), (1, .int (iI x)), (2, .int (iI z_3))] [] _ _ _ _
        refine pm_e_sim pm_a51_40 rfl ?_
        show pm_E _ _ _ 41 [(0, .ref (pl 13)), (1, .int (iI x)), (2, .int (iI z_3))] [.int (iI x)] _ _ _ _
        refine pm_e_sim pm_a51_41 rfl ?_
        refine pm_e_top (y := iI 1) (by decide +kernel) ?_
        show pm_E _ _ _ 42 [(0, .ref (pl 13)), (1, .int (iI x)), (2, .int (iI z_3))] [.int (iI 1), .int (iI x)] _ _ _ _
        refine pm_c_eq (t := 59) pm_a51_42 rfl ⟨by omega, by omega⟩ ⟨by omega, by omega⟩ (fun h_8 => ?_) (fun h_8 => ?_)
        · skip
          show pm_E _ _ _ 59 [(0, .ref (pl 13)), (1, .int (iI x)), (2, .int (iI z_3))] [] _ _ _ _
          refine pm_e_sim pm_a51_59 rfl ?_
          refine pm_e_top (y := iI 1) (by decide +kernel) ?_
          show pm_E _ _ _ 60 [(0, .ref (pl 13)), (1, .int (iI x)), (2, .int (iI z_3))] [.int (iI 1)] _ _ _ _
          refine pm_e_goto pm_a51_60 rfl ?_
          show pm_E _ _ _ 64 [(0, .ref (pl 13)), (1, .int (iI x)), (2, .int (iI z_3))] [.int (iI 1)] _ _ _ _
          refine pm_e_ret pm_a51_64 rfl rfl rfl rfl rfl rfl rfl rfl ?_
          exact k1
        · skip
          show pm_E _ _ _ 45 [(0, .ref (pl 13)), (1, .int (iI x)), (2, .int (iI z_3))] [] _ _ _ _
          refine pm_e_sim pm_a51_45 rfl ?_
          show pm_E _ _ _ 46 [(0, .ref (pl 13)), (1, .int (iI x)), (2, .int (iI z_3))] [.int (iI z_3)] _ _ _ _
          refine pm_e_sim pm_a51_46 rfl ?_
          refine pm_e_top (y := iI 1) (by decide +kernel) ?_
          show pm_E _ _ _ 47 [(0, .ref (pl 13)), (1, .int (iI x)), (2, .int (iI z_3))] [.int (iI 1), .int (iI z_3)] _ _ _ _
          refine pm_c_ne (t := 63) pm_a51_47 rfl ⟨by omega, by omega⟩ ⟨by omega, by omega⟩ (fun h_9 => ?_) (fun h_9 => ?_)
          · skip
            show pm_E _ _ _ 63 [(0, .ref (pl 13)), (1, .int (iI x)), (2, .int (iI z_3))] [] _ _ _ _
            refine pm_e_sim pm_a51_63 rfl ?_
            refine pm_e_top (y := iI 0) (by decide +kernel) ?_
            show pm_E _ _ _ 64 [(0, .ref (pl 13)), (1, .int (iI x)), (2, .int (iI z_3))] [.int (iI 0)] _ _ _ _
            refine pm_e_ret pm_a51_64 rfl rfl rfl rfl rfl rfl rfl rfl ?_
            exact k0
          · skip
            show pm_E _ _ _ 50 [(0, .ref (pl 13)), (1, .int (iI x)), (2, .int (iI z_3))] [] _ _ _ _
            refine pm_e_sim pm_a51_50 rfl ?_
            show pm_E _ _ _ 51 [(0, .ref (pl 13)), (1, .int (iI x)), (2, .int (iI z_3))] [.int (iI x)] _ _ _ _
            refine pm_e_sim pm_a51_51 rfl ?_
            refine pm_e_top (y := iI 1) (by decide +kernel) ?_
            show pm_E _ _ _ 52 [(0, .ref (pl 13)), (1, .int (iI x)), (2, .int (iI z_3))] [.int (iI 1), .int (iI x)] _ _ _ _
            refine pm_c_eq (t := 59) pm_a51_52 rfl ⟨by omega, by omega⟩ ⟨by omega, by omega⟩ (fun h_10 => ?_) (fun h_10 => ?_)
            · skip
              show pm_E _ _ _ 59 [(0, .ref (pl 13)), (1, .int (iI x)), (2, .int (iI z_3))] [] _ _ _ _
              refine pm_e_sim pm_a51_59 rfl ?_
              refine pm_e_top (y := iI 1) (by decide +kernel) ?_
              show pm_E _ _ _ 60 [(0, .ref (pl 13)), (1, .int (iI x)), (2, .int (iI z_3))] [.int (iI 1)] _ _ _ _
              refine pm_e_goto pm_a51_60 rfl ?_
              show pm_E _ _ _ 64 [(0, .ref (pl 13)), (1, .int (iI x)), (2, .int (iI z_3))] [.int (iI 1)] _ _ _ _
              refine pm_e_ret pm_a51_64 rfl rfl rfl rfl rfl rfl rfl rfl ?_
              exact k1
            · skip
              show pm_E _ _ _ 55 [(0, .ref (pl 13)), (1, .int (iI x)), (2, .int (iI z_3))] [] _ _ _ _
              refine pm_e_sim pm_a51_55 rfl ?_
              show pm_E _ _ _ 56 [(0, .ref (pl 13)), (1, .int (iI x)), (2, .int (iI z_3))] [.int (iI x)] _ _ _ _
              refine pm_i_ne (t := 63) pm_a51_56 rfl ⟨by omega, by omega⟩ (fun h_11 => ?_) (fun h_11 => ?_)
              · skip
                show pm_E _ _ _ 63 [(0, .ref (pl 13)), (1, .int (iI x)), (2, .int (iI z_3))] [] _ _ _ _
                refine pm_e_sim pm_a51_63 rfl ?_
                refine pm_e_top (y := iI 0) (by decide +kernel) ?_
                show pm_E _ _ _ 64 [(0, .ref (pl 13)), (1, .int (iI x)), (2, .int (iI z_3))] [.int (iI 0)] _ _ _ _
                refine pm_e_ret pm_a51_64 rfl rfl rfl rfl rfl rfl rfl rfl ?_
                exact k0
              · skip
                show pm_E _ _ _ 59 [(0, .ref (pl 13)), (1, .int (iI x)), (2, .int (iI z_3))] [] _ _ _ _
                refine pm_e_sim pm_a51_59 rfl ?_
                refine pm_e_top (y := iI 1) (by decide +kernel) ?_
                show pm_E _ _ _ 60 [(0, .ref (pl 13)), (1, .int (iI x)), (2, .int (iI z_3))] [.int (iI 1)] _ _ _ _
                refine pm_e_goto pm_a51_60 rfl ?_
                show pm_E _ _ _ 64 [(0, .ref (pl 13)), (1, .int (iI x)), (2, .int (iI z_3))] [.int (iI 1)] _ _ _ _
                refine pm_e_ret pm_a51_64 rfl rfl rfl rfl rfl rfl rfl rfl ?_
                exact k1
    · skip
      show pm_E _ _ _ 19 [(0, .ref (pl 13)), (1, .int (iI x))] [] _ _ _ _
      refine pm_e_sim pm_a51_19 rfl ?_
      refine pm_e_top (y := iI 0) (by decide +kernel) ?_
      show pm_E _ _ _ 20 [(0, .ref (pl 13)), (1, .int (iI x))] [.int (iI 0)] _ _ _ _
      refine pm_e_ret pm_a51_20 rfl rfl rfl rfl rfl rfl rfl rfl ?_
      exact k0
set_option maxHeartbeats 4000000 in
set_option maxRecDepth 100000 in
theorem C_e_goInto {d n : Nat} {kd pl : Nat → Nat} {s : Nat → Int} {a : Nat → Int → Int} {c : Nat → cdt} {M : List va_E} {Q : Option Value → List va_E → Nat → Nat → Prop} {x : Int} (hW : wf n kd pl) (ho : teO s) (hx : in32 x) (k : ∀ s' a', teF s a s' a' → Q none (ch n kd pl s' a' c M) 0 0) : pm_E none d pm_mm53 0 [(0, .ref (pl 13)), (1, .int (iI x))] [] (ch n kd pl s a c M) 0 0 Q := by
  obtain ⟨⟨_, _⟩, ⟨_, _⟩, ⟨_, _⟩, ⟨_, _⟩, ⟨_, _⟩⟩ := id ho
  obtain ⟨_, _⟩ := id hx
  refine pm_e_sim pm_a53_0 rfl ?_
  show pm_E _ _ _ 1 [(0, .ref (pl 13)), (1, .int (iI x))] [.ref (pl 13)] _ _ _ _
  refine pm_i_get pm_a53_1 rfl (cg_13 hW) rfl ?_
  show pm_E _ _ _ 4 [(0, .ref (pl 13)), (1, .int (iI x))] [.int (iI (s 14))] _ _ _ _
  refine pm_i_lt (t := 39) pm_a53_4 rfl ⟨by omega, by omega⟩ (fun h_1 => ?_) (fun h_1 => ?_)
  · skip
    show pm_E _ _ _ 39 [(0, .ref (pl 13)), (1, .int (iI x))] [] _ _ _ _
    refine pm_e_ret pm_a53_39 rfl rfl rfl rfl rfl rfl rfl rfl ?_
    exact k _ _ (teF_r (a := a) ho)
  · skip
    show pm_E _ _ _ 7 [(0, .ref (pl 13)), (1, .int (iI x))] [] _ _ _ _
    refine pm_e_sim pm_a53_7 rfl ?_
    show pm_E _ _ _ 8 [(0, .ref (pl 13)), (1, .int (iI x))] [.ref (pl 13)] _ _ _ _
    refine pm_i_get pm_a53_8 rfl (cg_13 hW) rfl ?_
    show pm_E _ _ _ 11 [(0, .ref (pl 13)), (1, .int (iI x))] [.int (iI (s 14))] _ _ _ _
    refine pm_e_sim pm_a53_11 rfl ?_
    show pm_E _ _ _ 12 [(0, .ref (pl 13)), (1, .int (iI x))] [.ref (pl 13), .int (iI (s 14))] _ _ _ _
    refine pm_i_get pm_a53_12 rfl (cg_13 hW) rfl ?_
    show pm_E _ _ _ 15 [(0, .ref (pl 13)), (1, .int (iI x))] [.ref (pl 14), .int (iI (s 14))] _ _ _ _
    refine pm_i_aln pm_a53_15 (cg_14 hW) ?_
    show pm_E _ _ _ 16 [(0, .ref (pl 13)), (1, .int (iI x))] [.int (iI 500), .int (iI (s 14))] _ _ _ _
    refine pm_c_ge (t := 39) pm_a53_16 rfl ⟨by omega, by omega⟩ ⟨by omega, by omega⟩ (fun h_2 => ?_) (fun h_2 => ?_)
    · skip
      show pm_E _ _ _ 39 [(0, .ref (pl 13)), (1, .int (iI x))] [] _ _ _ _
      refine pm_e_ret pm_a53_39 rfl rfl rfl rfl rfl rfl rfl rfl ?_
      exact k _ _ (teF_r (a := a) ho)
    · skip
      show pm_E _ _ _ 19 [(0, .ref (pl 13)), (1, .int (iI x))] [] _ _ _ _
      refine pm_e_sim pm_a53_19 rfl ?_
      show pm_E _ _ _ 20 [(0, .ref (pl 13)), (1, .int (iI x))] [.ref (pl 13)] _ _ _ _
      refine pm_i_get pm_a53_20 rfl (cg_13 hW) rfl ?_
      show pm_E _ _ _ 23 [(0, .ref (pl 13)), (1, .int (iI x))] [.ref (pl 14)] _ _ _ _
      refine pm_e_sim pm_a53_23 rfl ?_
      show pm_E _ _ _ 24 [(0, .ref (pl 13)), (1, .int (iI x))] [.ref (pl 13), .ref (pl 14)] _ _ _ _
      refine pm_i_get pm_a53_24 rfl (cg_13 hW) rfl ?_
      show pm_E _ _ _ 27 [(0, .ref (pl 13)), (1, .int (iI x))] [.int (iI (s 14)), .ref (pl 14)] _ _ _ _
      refine pm_e_sim pm_a53_27 rfl ?_
      show pm_E _ _ _ 28 [(0, .ref (pl 13)), (1, .int (iI x))] [.int (iI x), .int (iI (s 14)), .ref (pl 14)] _ _ _ _
      refine pm_i_ast pm_a53_28 (cg_14 hW) (by omega) (by omega) ⟨by omega, by omega⟩ (ca_14 hW _) ?_
      show pm_E _ _ _ 29 [(0, .ref (pl 13)), (1, .int (iI x))] [] _ _ _ _
      refine pm_e_sim pm_a53_29 rfl ?_
      show pm_E _ _ _ 30 [(0, .ref (pl 13)), (1, .int (iI x))] [.ref (pl 13)] _ _ _ _
      refine pm_e_sim pm_a53_30 rfl ?_
      show pm_E _ _ _ 31 [(0, .ref (pl 13)), (1, .int (iI x))] [.ref (pl 13), .ref (pl 13)] _ _ _ _
      refine pm_i_get pm_a53_31 rfl (cg_13 hW) rfl ?_
      show pm_E _ _ _ 34 [(0, .ref (pl 13)), (1, .int (iI x))] [.int (iI (s 14)), .ref (pl 13)] _ _ _ _
      refine pm_e_sim pm_a53_34 rfl ?_
      refine pm_e_top (y := iI 1) (by decide +kernel) ?_
      show pm_E _ _ _ 35 [(0, .ref (pl 13)), (1, .int (iI x))] [.int (iI 1), .int (iI (s 14)), .ref (pl 13)] _ _ _ _
      refine pm_e_sim pm_a53_35 rfl ?_
      refine pm_e_top (y := iI (s 14 + 1)) (iI_add _ _) ?_
      show pm_E _ _ _ 36 [(0, .ref (pl 13)), (1, .int (iI x))] [.int (iI (s 14 + 1)), .ref (pl 13)] _ _ _ _
      refine pm_i_put pm_a53_36 rfl (cg_13 hW) rfl (Nat.le_of_ble_eq_true rfl) (Or.inl rfl) (cw_14 hW (s 14 + 1)) ?_
      show pm_E _ _ _ 39 [(0, .ref (pl 13)), (1, .int (iI x))] [] _ _ _ _
      refine pm_e_ret pm_a53_39 rfl rfl rfl rfl rfl rfl rfl rfl ?_
      exact k _ _ (teF_a (teF_p14 (v := s 14 + 1) (teF_r (a := a) ho) ⟨by omega, by omega⟩))
set_option maxHeartbeats 4000000 in
set_option maxRecDepth 100000 in
theorem C_e_tellName {d n : Nat} {kd pl : Nat → Nat} {s : Nat → Int} {a : Nat → Int → Int} {c : Nat → cdt} {M : List va_E} {Q : Option Value → List va_E → Nat → Nat → Prop} {x : Int} (hW : wf n kd pl) (ho : teO s) (hx : in32 x) (k : ∀ s' a', teF s a s' a' → Q none (ch n kd pl s' a' c M) 0 0) : pm_E none (d + 1) pm_mm54 0 [(0, .ref (pl 13)), (1, .int (iI x))] [] (ch n kd pl s a c M) 0 0 Q := by
  obtain ⟨⟨_, _⟩, ⟨_, _⟩, ⟨_, _⟩, ⟨_, _⟩, ⟨_, _⟩⟩ := id ho
  obtain ⟨_, _⟩ := id hx
  refine pm_e_sim pm_a54_0 rfl ?_
  show pm_E _ _ _ 1 [(0, .ref (pl 13)), (1, .int (iI x))] [.int (iI x)] _ _ _ _
  refine pm_e_sim pm_a54_1 rfl ?_
  refine pm_e_top (y := iI 26) (by decide +kernel) ?_
  show pm_E _ _ _ 3 [(0, .ref (pl 13)), (1, .int (iI x))] [.int (iI 26), .int (iI x)] _ _ _ _
  refine pm_c_lt (t := 19) pm_a54_3 rfl ⟨by omega, by omega⟩ ⟨by omega, by omega⟩ (fun h_1 => ?_) (fun h_1 => ?_)
  · skip
    show pm_E _ _ _ 19 [(0, .ref (pl 13)), (1, .int (iI x))] [] _ _ _ _
    refine pm_e_sim pm_a54_19 rfl ?_
    show pm_E _ _ _ 20 [(0, .ref (pl 13)), (1, .int (iI x))] [.ref (pl 13)] _ _ _ _
    refine pm_e_sim pm_a54_20 rfl ?_
    refine pm_e_top (y := iI 97) (by decide +kernel) ?_
    show pm_E _ _ _ 22 [(0, .ref (pl 13)), (1, .int (iI x))] [.int (iI 97), .ref (pl 13)] _ _ _ _
    refine pm_e_sim pm_a54_22 rfl ?_
    show pm_E _ _ _ 23 [(0, .ref (pl 13)), (1, .int (iI x))] [.int (iI x), .int (iI 97), .ref (pl 13)] _ _ _ _
    refine pm_e_sim pm_a54_23 rfl ?_
    refine pm_e_top (y := iI 26) (by decide +kernel) ?_
    show pm_E _ _ _ 25 [(0, .ref (pl 13)), (1, .int (iI x))] [.int (iI 26), .int (iI x), .int (iI 97), .ref (pl 13)] _ _ _ _
    refine pm_i_rem pm_a54_25 (by decide +kernel) (fun z_2 bz_2 => ?_)
    obtain ⟨_, _⟩ := bz_2
    show pm_E _ _ _ 26 [(0, .ref (pl 13)), (1, .int (iI x))] [.int (iI z_2), .int (iI 97), .ref (pl 13)] _ _ _ _
    refine pm_e_sim pm_a54_26 rfl ?_
    refine pm_e_top (y := iI (97 + z_2)) (iI_add _ _) ?_
    refine pm_e_hav (fun z_3 bz_3 => ?_)
    obtain ⟨_, _⟩ := bz_3
    show pm_E _ _ _ 27 [(0, .ref (pl 13)), (1, .int (iI x))] [.int (iI z_3), .ref (pl 13)] _ _ _ _
    refine pm_i_callv (k := (pl 13)) (T2 := pm_mm52) pm_a54_27 rfl rfl rfl (cg_13 hW) ⟨Nat.le_of_ble_eq_true rfl, Nat.le_of_ble_eq_true rfl, rfl, by decide +kernel⟩ ?_
    show pm_E none _ _ 0 [(0, .ref (pl 13)), (1, .int (iI z_3))] [] _ _ _ _
    have f_4 := (teF_r (a := a) ho)
    refine C_e_tell hW f_4.2.2 ⟨by omega, by omega⟩ (fun s_4 a_4 g_4 => ?_)
    have e_4 := g_4.2.2
    obtain ⟨⟨_, _⟩, ⟨_, _⟩, ⟨_, _⟩, ⟨_, _⟩, ⟨_, _⟩⟩ := e_4
    show pm_E _ _ _ 30 [(0, .ref (pl 13)), (1, .int (iI x))] [] _ _ _ _
    refine pm_e_ret pm_a54_30 rfl rfl rfl rfl rfl rfl rfl rfl ?_
    exact k _ _ (teF_t f_4 g_4)
  · skip
    show pm_E _ _ _ 6 [(0, .ref (pl 13)), (1, .int (iI x))] [] _ _ _ _
    refine pm_e_sim pm_a54_6 rfl ?_
    show pm_E _ _ _ 7 [(0, .ref (pl 13)), (1, .int (iI x))] [.ref (pl 13)] _ _ _ _
    refine pm_e_sim pm_a54_7 rfl ?_
    refine pm_e_top (y := iI 97) (by decide +kernel) ?_
    show pm_E _ _ _ 9 [(0, .ref (pl 13)), (1, .int (iI x))] [.int (iI 97), .ref (pl 13)] _ _ _ _
    refine pm_e_sim pm_a54_9 rfl ?_
    show pm_E _ _ _ 10 [(0, .ref (pl 13)), (1, .int (iI x))] [.int (iI x), .int (iI 97), .ref (pl 13)] _ _ _ _
    refine pm_e_sim pm_a54_10 rfl ?_
    refine pm_e_top (y := iI 26) (by decide +kernel) ?_
    show pm_E _ _ _ 12 [(0, .ref (pl 13)), (1, .int (iI x))] [.int (iI 26), .int (iI x), .int (iI 97), .ref (pl 13)] _ _ _ _
    refine pm_i_div pm_a54_12 (by decide +kernel) (fun z_5 bz_5 => ?_)
    obtain ⟨_, _⟩ := bz_5
    show pm_E _ _ _ 13 [(0, .ref (pl 13)), (1, .int (iI x))] [.int (iI z_5), .int (iI 97), .ref (pl 13)] _ _ _ _
    refine pm_e_sim pm_a54_13 rfl ?_
    refine pm_e_top (y := iI (97 + z_5)) (iI_add _ _) ?_
    refine pm_e_hav (fun z_6 bz_6 => ?_)
    obtain ⟨_, _⟩ := bz_6
    show pm_E _ _ _ 14 [(0, .ref (pl 13)), (1, .int (iI x))] [.int (iI z_6), .ref (pl 13)] _ _ _ _
    refine pm_e_sim pm_a54_14 rfl ?_
    refine pm_e_top (y := iI 1) (by decide +kernel) ?_
    show pm_E _ _ _ 15 [(0, .ref (pl 13)), (1, .int (iI x))] [.int (iI 1), .int (iI z_6), .ref (pl 13)] _ _ _ _
    refine pm_e_sim pm_a54_15 rfl ?_
    refine pm_e_top (y := iI (z_6 - 1)) (iI_sub _ _) ?_
    refine pm_e_hav (fun z_7 bz_7 => ?_)
    obtain ⟨_, _⟩ := bz_7
    show pm_E _ _ _ 16 [(0, .ref (pl 13)), (1, .int (iI x))] [.int (iI z_7), .ref (pl 13)] _ _ _ _
    refine pm_i_callv (k := (pl 13)) (T2 := pm_mm52) pm_a54_16 rfl rfl rfl (cg_13 hW) ⟨Nat.le_of_ble_eq_true rfl, Nat.le_of_ble_eq_true rfl, rfl, by decide +kernel⟩ ?_
    show pm_E none _ _ 0 [(0, .ref (pl 13)), (1, .int (iI z_7))] [] _ _ _ _
    have f_8 := (teF_r (a := a) ho)
    refine C_e_tell hW f_8.2.2 ⟨by omega, by omega⟩ (fun s_8 a_8 g_8 => ?_)
    have e_8 := g_8.2.2
    obtain ⟨⟨_, _⟩, ⟨_, _⟩, ⟨_, _⟩, ⟨_, _⟩, ⟨_, _⟩⟩ := e_8
    show pm_E _ _ _ 19 [(0, .ref (pl 13)), (1, .int (iI x))] [] _ _ _ _
    refine pm_e_sim pm_a54_19 rfl ?_
    show pm_E _ _ _ 20 [(0, .ref (pl 13)), (1, .int (iI x))] [.ref (pl 13)] _ _ _ _
    refine pm_e_sim pm_a54_20 rfl ?_
    refine pm_e_top (y := iI 97) (by decide +kernel) ?_
    show pm_E _ _ _ 22 [(0, .ref (pl 13)), (1, .int (iI x))] [.int (iI 97), .ref (pl 13)] _ _ _ _
    refine pm_e_sim pm_a54_22 rfl ?_
    show pm_E _ _ _ 23 [(0, .ref (pl 13)), (1, .int (iI x))] [.int (iI x), .int (iI 97), .ref (pl 13)] _ _ _ _
    refine pm_e_sim pm_a54_23 rfl ?_
    refine pm_e_top (y := iI 26) (by decide +kernel) ?_
    show pm_E _ _ _ 25 [(0, .ref (pl 13)), (1, .int (iI x))] [.int (iI 26), .int (iI x), .int (iI 97), .ref (pl 13)] _ _ _ _
    refine pm_i_rem pm_a54_25 (by decide +kernel) (fun z_9 bz_9 => ?_)
    obtain ⟨_, _⟩ := bz_9
    show pm_E _ _ _ 26 [(0, .ref (pl 13)), (1, .int (iI x))] [.int (iI z_9), .int (iI 97), .ref (pl 13)] _ _ _ _
    refine pm_e_sim pm_a54_26 rfl ?_
    refine pm_e_top (y := iI (97 + z_9)) (iI_add _ _) ?_
    refine pm_e_hav (fun z_10 bz_10 => ?_)
    obtain ⟨_, _⟩ := bz_10
    show pm_E _ _ _ 27 [(0, .ref (pl 13)), (1, .int (iI x))] [.int (iI z_10), .ref (pl 13)] _ _ _ _
    refine pm_i_callv (k := (pl 13)) (T2 := pm_mm52) pm_a54_27 rfl rfl rfl (cg_13 hW) ⟨Nat.le_of_ble_eq_true rfl, Nat.le_of_ble_eq_true rfl, rfl, by decide +kernel⟩ ?_
    show pm_E none _ _ 0 [(0, .ref (pl 13)), (1, .int (iI z_10))] [] _ _ _ _
    have f_11 := (teF_t f_8 g_8)
    refine C_e_tell hW f_11.2.2 ⟨by omega, by omega⟩ (fun s_11 a_11 g_11 => ?_)
    have e_11 := g_11.2.2
    obtain ⟨⟨_, _⟩, ⟨_, _⟩, ⟨_, _⟩, ⟨_, _⟩, ⟨_, _⟩⟩ := e_11
    show pm_E _ _ _ 30 [(0, .ref (pl 13)), (1, .int (iI x))] [] _ _ _ _
    refine pm_e_ret pm_a54_30 rfl rfl rfl rfl rfl rfl rfl rfl ?_
    exact k _ _ (teF_t f_11 g_11)
set_option maxHeartbeats 4000000 in
set_option maxRecDepth 100000 in
theorem C_e_tellLeaf {d n : Nat} {kd pl : Nat → Nat} {s : Nat → Int} {a : Nat → Int → Int} {c : Nat → cdt} {M : List va_E} {Q : Option Value → List va_E → Nat → Nat → Prop} {x : Int} (hW : wf n kd pl) (ho : teO s) (hx : in32 x) (k : ∀ s' a', teF s a s' a' → Q none (ch n kd pl s' a' c M) 0 0) : pm_E none (d + 4) pm_mm55 0 [(0, .ref (pl 13)), (1, .int (iI x))] [] (ch n kd pl s a c M) 0 0 Q := by
  obtain ⟨⟨_, _⟩, ⟨_, _⟩, ⟨_, _⟩, ⟨_, _⟩, ⟨_, _⟩⟩ := id ho
  obtain ⟨_, _⟩ := id hx
  refine pm_e_sim pm_a55_0 rfl ?_
  show pm_E _ _ _ 1 [(0, .ref (pl 13)), (1, .int (iI x))] [.int (iI x)] _ _ _ _
  refine pm_e_sim pm_a55_1 rfl ?_
  refine pm_e_top (y := iI 10) (by decide +kernel) ?_
  show pm_E _ _ _ 3 [(0, .ref (pl 13)), (1, .int (iI x))] [.int (iI 10), .int (iI x)] _ _ _ _
  refine pm_c_lt (t := 24) pm_a55_3 rfl ⟨by omega, by omega⟩ ⟨by omega, by omega⟩ (fun h_1 => ?_) (fun h_1 => ?_)
  · skip
    show pm_E _ _ _ 24 [(0, .ref (pl 13)), (1, .int (iI x))] [] _ _ _ _
    refine pm_e_sim pm_a55_24 rfl ?_
    show pm_E _ _ _ 25 [(0, .ref (pl 13)), (1, .int (iI x))] [.int (iI x)] _ _ _ _
    refine pm_e_sim pm_a55_25 rfl ?_
    refine pm_e_top (y := iI 2) (by decide +kernel) ?_
    show pm_E _ _ _ 26 [(0, .ref (pl 13)), (1, .int (iI x))] [.int (iI 2), .int (iI x)] _ _ _ _
    refine pm_c_lt (t := 47) pm_a55_26 rfl ⟨by omega, by omega⟩ ⟨by omega, by omega⟩ (fun h_2 => ?_) (fun h_2 => ?_)
    · skip
      show pm_E _ _ _ 47 [(0, .ref (pl 13)), (1, .int (iI x))] [] _ _ _ _
      refine pm_e_ret pm_a55_47 rfl rfl rfl rfl rfl rfl rfl rfl ?_
      exact k _ _ (teF_r (a := a) ho)
    · skip
      show pm_E _ _ _ 29 [(0, .ref (pl 13)), (1, .int (iI x))] [] _ _ _ _
      refine pm_e_sim pm_a55_29 rfl ?_
      show pm_E _ _ _ 30 [(0, .ref (pl 13)), (1, .int (iI x))] [.int (iI x)] _ _ _ _
      refine pm_e_sim pm_a55_30 rfl ?_
      refine pm_e_top (y := iI 6) (by decide +kernel) ?_
      show pm_E _ _ _ 32 [(0, .ref (pl 13)), (1, .int (iI x))] [.int (iI 6), .int (iI x)] _ _ _ _
      refine pm_c_gt (t := 47) pm_a55_32 rfl ⟨by omega, by omega⟩ ⟨by omega, by omega⟩ (fun h_3 => ?_) (fun h_3 => ?_)
      · skip
        show pm_E _ _ _ 47 [(0, .ref (pl 13)), (1, .int (iI x))] [] _ _ _ _
        refine pm_e_ret pm_a55_47 rfl rfl rfl rfl rfl rfl rfl rfl ?_
        exact k _ _ (teF_r (a := a) ho)
      · skip
        show pm_E _ _ _ 35 [(0, .ref (pl 13)), (1, .int (iI x))] [] _ _ _ _
        refine pm_e_sim pm_a55_35 rfl ?_
        show pm_E _ _ _ 36 [(0, .ref (pl 13)), (1, .int (iI x))] [.ref (pl 13)] _ _ _ _
        refine pm_e_rd pm_a55_36 rfl rfl rfl ?_
        show pm_E _ _ _ 38 [(0, .ref (pl 13)), (1, .int (iI x))] [.retAddr 3, .ref (pl 13)] _ _ _ _
        refine pm_e_sim pm_a55_38 rfl ?_
        show pm_E _ _ _ 39 [(0, .ref (pl 13)), (1, .int (iI x))] [.int (iI x), .retAddr 3, .ref (pl 13)] _ _ _ _
        refine pm_e_sim pm_a55_39 rfl ?_
        refine pm_e_top (y := iI 2) (by decide +kernel) ?_
        show pm_E _ _ _ 40 [(0, .ref (pl 13)), (1, .int (iI x))] [.int (iI 2), .int (iI x), .retAddr 3, .ref (pl 13)] _ _ _ _
        refine pm_e_sim pm_a55_40 rfl ?_
        refine pm_e_top (y := iI (x - 2)) (iI_sub _ _) ?_
        show pm_E _ _ _ 41 [(0, .ref (pl 13)), (1, .int (iI x))] [.int (iI (x - 2)), .retAddr 3, .ref (pl 13)] _ _ _ _
        refine pm_e_call (T2 := pm_mm223) pm_a55_41 rfl rfl rfl rfl rfl rfl rfl rfl rfl ?_
        show pm_E none _ _ 0 [(0, .retAddr 3), (1, .int (iI (x - 2)))] [] _ _ _ _
        refine J_ca (by omega) (by omega) (fun v_4 b_4 => ?_)
        obtain ⟨_, _⟩ := b_4
        show pm_E _ _ _ 44 [(0, .ref (pl 13)), (1, .int (iI x))] [.int (iI v_4), .ref (pl 13)] _ _ _ _
        refine pm_i_callv (k := (pl 13)) (T2 := pm_mm52) pm_a55_44 rfl rfl rfl (cg_13 hW) ⟨Nat.le_of_ble_eq_true rfl, Nat.le_of_ble_eq_true rfl, rfl, by decide +kernel⟩ ?_
        show pm_E none _ _ 0 [(0, .ref (pl 13)), (1, .int (iI v_4))] [] _ _ _ _
        have f_5 := (teF_r (a := a) ho)
        refine C_e_tell hW f_5.2.2 ⟨by omega, by omega⟩ (fun s_5 a_5 g_5 => ?_)
        have e_5 := g_5.2.2
        obtain ⟨⟨_, _⟩, ⟨_, _⟩, ⟨_, _⟩, ⟨_, _⟩, ⟨_, _⟩⟩ := e_5
        show pm_E _ _ _ 47 [(0, .ref (pl 13)), (1, .int (iI x))] [] _ _ _ _
        refine pm_e_ret pm_a55_47 rfl rfl rfl rfl rfl rfl rfl rfl ?_
        exact k _ _ (teF_t f_5 g_5)
  · skip
    show pm_E _ _ _ 6 [(0, .ref (pl 13)), (1, .int (iI x))] [] _ _ _ _
    refine pm_e_sim pm_a55_6 rfl ?_
    show pm_E _ _ _ 7 [(0, .ref (pl 13)), (1, .int (iI x))] [.ref (pl 13)] _ _ _ _
    refine pm_e_sim pm_a55_7 rfl ?_
    show pm_E _ _ _ 8 [(0, .ref (pl 13)), (1, .int (iI x))] [.ref (pl 13), .ref (pl 13)] _ _ _ _
    refine pm_i_get pm_a55_8 rfl (cg_13 hW) rfl ?_
    show pm_E _ _ _ 11 [(0, .ref (pl 13)), (1, .int (iI x))] [.int (iI (s 15)), .ref (pl 13)] _ _ _ _
    refine pm_e_sim pm_a55_11 rfl ?_
    refine pm_e_top (y := iI 1) (by decide +kernel) ?_
    show pm_E _ _ _ 12 [(0, .ref (pl 13)), (1, .int (iI x))] [.int (iI 1), .int (iI (s 15)), .ref (pl 13)] _ _ _ _
    refine pm_e_sim pm_a55_12 rfl ?_
    refine pm_e_top (y := iI (s 15 - 1)) (iI_sub _ _) ?_
    refine pm_e_hav (fun z_6 bz_6 => ?_)
    obtain ⟨_, _⟩ := bz_6
    show pm_E _ _ _ 13 [(0, .ref (pl 13)), (1, .int (iI x))] [.int (iI z_6), .ref (pl 13)] _ _ _ _
    refine pm_e_sim pm_a55_13 rfl ?_
    show pm_E _ _ _ 14 [(0, .ref (pl 13)), (1, .int (iI x))] [.int (iI x), .int (iI z_6), .ref (pl 13)] _ _ _ _
    refine pm_e_sim pm_a55_14 rfl ?_
    refine pm_e_top (y := iI 10) (by decide +kernel) ?_
    show pm_E _ _ _ 16 [(0, .ref (pl 13)), (1, .int (iI x))] [.int (iI 10), .int (iI x), .int (iI z_6), .ref (pl 13)] _ _ _ _
    refine pm_e_sim pm_a55_16 rfl ?_
    refine pm_e_top (y := iI (x - 10)) (iI_sub _ _) ?_
    refine pm_e_hav (fun z_7 bz_7 => ?_)
    obtain ⟨_, _⟩ := bz_7
    show pm_E _ _ _ 17 [(0, .ref (pl 13)), (1, .int (iI x))] [.int (iI z_7), .int (iI z_6), .ref (pl 13)] _ _ _ _
    refine pm_e_sim pm_a55_17 rfl ?_
    refine pm_e_top (y := iI (z_6 - z_7)) (iI_sub _ _) ?_
    refine pm_e_hav (fun z_8 bz_8 => ?_)
    obtain ⟨_, _⟩ := bz_8
    show pm_E _ _ _ 18 [(0, .ref (pl 13)), (1, .int (iI x))] [.int (iI z_8), .ref (pl 13)] _ _ _ _
    refine pm_i_callv (k := (pl 13)) (T2 := pm_mm54) pm_a55_18 rfl rfl rfl (cg_13 hW) ⟨Nat.le_of_ble_eq_true rfl, Nat.le_of_ble_eq_true rfl, rfl, by decide +kernel⟩ ?_
    show pm_E none _ _ 0 [(0, .ref (pl 13)), (1, .int (iI z_8))] [] _ _ _ _
    have f_9 := (teF_r (a := a) ho)
    refine C_e_tellName hW f_9.2.2 ⟨by omega, by omega⟩ (fun s_9 a_9 g_9 => ?_)
    have e_9 := g_9.2.2
    obtain ⟨⟨_, _⟩, ⟨_, _⟩, ⟨_, _⟩, ⟨_, _⟩, ⟨_, _⟩⟩ := e_9
    show pm_E _ _ _ 21 [(0, .ref (pl 13)), (1, .int (iI x))] [] _ _ _ _
    refine pm_e_goto pm_a55_21 rfl ?_
    show pm_E _ _ _ 47 [(0, .ref (pl 13)), (1, .int (iI x))] [] _ _ _ _
    refine pm_e_ret pm_a55_47 rfl rfl rfl rfl rfl rfl rfl rfl ?_
    exact k _ _ (teF_t f_9 g_9)
set_option maxHeartbeats 4000000 in
set_option maxRecDepth 100000 in
theorem C_e_leave_l {d n : Nat} {kd pl : Nat → Nat} {c : Nat → cdt} {M : List va_E} {Q : Option Value → List va_E → Nat → Nat → Prop} (hW : wf n kd pl) : ∀ (f : Nat) (i : Int) (s : Nat → Int) (a : Nat → Int → Int), -1 ≤ i → i < 500 → teO s → (∀ s' a', teF s a s' a' → Q none (ch n kd pl s' a' c M) 0 0) → i + 1 < (f : Int) → pm_E none (d + 1) pm_mm56 15 [(0, .ref (pl 13)), (1, .int (iI i))] [] (ch n kd pl s a c M) 0 0 Q := by
  intro f
  induction f with
  | zero =>
    intro i s a hi0 hi1 ho k hf
    exfalso; omega
  | succ f ih =>
    intro i s a hi0 hi1 ho k hf
    obtain ⟨⟨_, _⟩, ⟨_, _⟩, ⟨_, _⟩, ⟨_, _⟩, ⟨_, _⟩⟩ := id ho
    refine pm_e_sim pm_a56_15 rfl ?_
    show pm_E _ _ _ 16 [(0, .ref (pl 13)), (1, .int (iI i))] [.int (iI i)] _ _ _ _
    refine pm_i_lt (t := 93) pm_a56_16 rfl ⟨by omega, by omega⟩ (fun h_1 => ?_) (fun h_1 => ?_)
    · skip
      show pm_E _ _ _ 93 [(0, .ref (pl 13)), (1, .int (iI i))] [] _ _ _ _
      refine pm_e_ret pm_a56_93 rfl rfl rfl rfl rfl rfl rfl rfl ?_
      exact k _ _ (teF_r (a := a) ho)
    · skip
      show pm_E _ _ _ 19 [(0, .ref (pl 13)), (1, .int (iI i))] [] _ _ _ _
      refine pm_e_sim pm_a56_19 rfl ?_
      show pm_E _ _ _ 20 [(0, .ref (pl 13)), (1, .int (iI i))] [.ref (pl 13)] _ _ _ _
      refine pm_i_get pm_a56_20 rfl (cg_13 hW) rfl ?_
      show pm_E _ _ _ 23 [(0, .ref (pl 13)), (1, .int (iI i))] [.ref (pl 14)] _ _ _ _
      refine pm_e_sim pm_a56_23 rfl ?_
      show pm_E _ _ _ 24 [(0, .ref (pl 13)), (1, .int (iI i))] [.int (iI i), .ref (pl 14)] _ _ _ _
      refine pm_i_ald pm_a56_24 (cg_14 hW) (by omega) (by omega) ⟨by omega, by omega⟩ ?_
      show pm_E _ _ _ 25 [(0, .ref (pl 13)), (1, .int (iI i))] [.int (iI ((a 6) (i)))] _ _ _ _
      refine pm_e_sim pm_a56_25 rfl ?_
      refine pm_e_top (y := iI (-5)) (by decide +kernel) ?_
      show pm_E _ _ _ 27 [(0, .ref (pl 13)), (1, .int (iI i))] [.int (iI (-5)), .int (iI ((a 6) (i)))] _ _ _ _
      refine pm_e_sim pm_a56_27 rfl ?_
      refine pm_e_hav (fun z_2 bz_2 => ?_)
      obtain ⟨_, _⟩ := bz_2
      show pm_E _ _ _ 28 [(0, .ref (pl 13)), (1, .int (iI i))] [.int (iI z_2)] _ _ _ _
      refine pm_e_sim pm_a56_28 rfl ?_
      show pm_E _ _ _ 29 [(0, .ref (pl 13)), (1, .int (iI i)), (2, .int (iI z_2))] [] _ _ _ _
      refine pm_e_sim pm_a56_29 rfl ?_
      show pm_E _ _ _ 30 [(0, .ref (pl 13)), (1, .int (iI i)), (2, .int (iI z_2))] [.int (iI z_2)] _ _ _ _
      refine pm_i_ne (t := 50) pm_a56_30 rfl ⟨by omega, by omega⟩ (fun h_3 => ?_) (fun h_3 => ?_)
      · skip
        show pm_E _ _ _ 50 [(0, .ref (pl 13)), (1, .int (iI i)), (2, .int (iI z_2))] [] _ _ _ _
        refine pm_e_sim pm_a56_50 rfl ?_
        show pm_E _ _ _ 51 [(0, .ref (pl 13)), (1, .int (iI i)), (2, .int (iI z_2))] [.int (iI z_2)] _ _ _ _
        refine pm_e_sim pm_a56_51 rfl ?_
        refine pm_e_top (y := iI 2) (by decide +kernel) ?_
        show pm_E _ _ _ 52 [(0, .ref (pl 13)), (1, .int (iI i)), (2, .int (iI z_2))] [.int (iI 2), .int (iI z_2)] _ _ _ _
        refine pm_c_ne (t := 65) pm_a56_52 rfl ⟨by omega, by omega⟩ ⟨by omega, by omega⟩ (fun h_4 => ?_) (fun h_4 => ?_)
        · skip
          show pm_E _ _ _ 65 [(0, .ref (pl 13)), (1, .int (iI i)), (2, .int (iI z_2))] [] _ _ _ _
          refine pm_e_sim pm_a56_65 rfl ?_
          show pm_E _ _ _ 66 [(0, .ref (pl 13)), (1, .int (iI i)), (2, .int (iI z_2))] [.ref (pl 13)] _ _ _ _
          refine pm_i_get pm_a56_66 rfl (cg_13 hW) rfl ?_
          show pm_E _ _ _ 69 [(0, .ref (pl 13)), (1, .int (iI i)), (2, .int (iI z_2))] [.ref (pl 14)] _ _ _ _
          refine pm_e_sim pm_a56_69 rfl ?_
          show pm_E _ _ _ 70 [(0, .ref (pl 13)), (1, .int (iI i)), (2, .int (iI z_2))] [.int (iI i), .ref (pl 14)] _ _ _ _
          refine pm_i_ald pm_a56_70 (cg_14 hW) (by omega) (by omega) ⟨by omega, by omega⟩ ?_
          show pm_E _ _ _ 71 [(0, .ref (pl 13)), (1, .int (iI i)), (2, .int (iI z_2))] [.int (iI ((a 6) (i)))] _ _ _ _
          refine pm_e_sim pm_a56_71 rfl ?_
          refine pm_e_top (y := iI 4) (by decide +kernel) ?_
          show pm_E _ _ _ 72 [(0, .ref (pl 13)), (1, .int (iI i)), (2, .int (iI z_2))] [.int (iI 4), .int (iI ((a 6) (i)))] _ _ _ _
          refine pm_e_sim pm_a56_72 rfl ?_
          refine pm_e_hav (fun z_5 bz_5 => ?_)
          obtain ⟨_, _⟩ := bz_5
          show pm_E _ _ _ 73 [(0, .ref (pl 13)), (1, .int (iI i)), (2, .int (iI z_2))] [.int (iI z_5)] _ _ _ _
          refine pm_i_eq (t := 82) pm_a56_73 rfl ⟨by omega, by omega⟩ (fun h_6 => ?_) (fun h_6 => ?_)
          · skip
            show pm_E _ _ _ 82 [(0, .ref (pl 13)), (1, .int (iI i)), (2, .int (iI z_2))] [] _ _ _ _
            refine pm_e_sim pm_a56_82 rfl ?_
            show pm_E _ _ _ 83 [(0, .ref (pl 13)), (1, .int (iI i)), (2, .int (iI z_2))] [.ref (pl 13)] _ _ _ _
            refine pm_e_sim pm_a56_83 rfl ?_
            show pm_E _ _ _ 84 [(0, .ref (pl 13)), (1, .int (iI i)), (2, .int (iI z_2))] [.int (iI i), .ref (pl 13)] _ _ _ _
            refine pm_i_put pm_a56_84 rfl (cg_13 hW) rfl (Nat.le_of_ble_eq_true rfl) (Or.inl rfl) (cw_14 hW i) ?_
            show pm_E _ _ _ 87 [(0, .ref (pl 13)), (1, .int (iI i)), (2, .int (iI z_2))] [] _ _ _ _
            refine pm_e_inc (y := iI (i + (-1))) pm_a56_87 rfl (iI_add _ _) (by decide +kernel) rfl ?_
            show pm_E _ _ _ 90 [(0, .ref (pl 13)), (1, .int (iI (i + (-1)))), (2, .int (iI z_2))] [] _ _ _ _
            refine pm_e_goto pm_a56_90 rfl ?_
            show pm_E _ _ _ 15 [(0, .ref (pl 13)), (1, .int (iI (i + (-1)))), (2, .int (iI z_2))] [] _ _ _ _
            show pm_E _ _ _ 15 ([(0, .ref (pl 13)), (1, .int (iI (i + (-1))))] ++ [(2, .int (iI z_2))]) [] _ _ _ _
            refine pm_e_more [(2, .int (iI z_2))] (show ([0, 1, 2] : List Nat).Nodup from by decide) ?_
            have f_7 := (teF_p14 (v := i) (teF_r (a := a) ho) ⟨by omega, by omega⟩)
            exact ih (i + (-1)) _ _ (by omega) (by omega) f_7.2.2 (fun s2 a2 f2 => k s2 a2 (teF_t f_7 f2)) (by omega)
          · skip
            show pm_E _ _ _ 76 [(0, .ref (pl 13)), (1, .int (iI i)), (2, .int (iI z_2))] [] _ _ _ _
            refine pm_e_sim pm_a56_76 rfl ?_
            show pm_E _ _ _ 77 [(0, .ref (pl 13)), (1, .int (iI i)), (2, .int (iI z_2))] [.ref (pl 13)] _ _ _ _
            refine pm_e_sim pm_a56_77 rfl ?_
            refine pm_e_top (y := iI 41) (by decide +kernel) ?_
            show pm_E _ _ _ 79 [(0, .ref (pl 13)), (1, .int (iI i)), (2, .int (iI z_2))] [.int (iI 41), .ref (pl 13)] _ _ _ _
            refine pm_i_callv (k := (pl 13)) (T2 := pm_mm52) pm_a56_79 rfl rfl rfl (cg_13 hW) ⟨Nat.le_of_ble_eq_true rfl, Nat.le_of_ble_eq_true rfl, rfl, by decide +kernel⟩ ?_
            show pm_E none _ _ 0 [(0, .ref (pl 13)), (1, .int (iI 41))] [] _ _ _ _
            have f_8 := (teF_r (a := a) ho)
            refine C_e_tell hW f_8.2.2 (by decide) (fun s_8 a_8 g_8 => ?_)
            have e_8 := g_8.2.2
            obtain ⟨⟨_, _⟩, ⟨_, _⟩, ⟨_, _⟩, ⟨_, _⟩, ⟨_, _⟩⟩ := e_8
            show pm_E _ _ _ 82 [(0, .ref (pl 13)), (1, .int (iI i)), (2, .int (iI z_2))] [] _ _ _ _
            refine pm_e_sim pm_a56_82 rfl ?_
            show pm_E _ _ _ 83 [(0, .ref (pl 13)), (1, .int (iI i)), (2, .int (iI z_2))] [.ref (pl 13)] _ _ _ _
            refine pm_e_sim pm_a56_83 rfl ?_
            show pm_E _ _ _ 84 [(0, .ref (pl 13)), (1, .int (iI i)), (2, .int (iI z_2))] [.int (iI i), .ref (pl 13)] _ _ _ _
            refine pm_i_put pm_a56_84 rfl (cg_13 hW) rfl (Nat.le_of_ble_eq_true rfl) (Or.inl rfl) (cw_14 hW i) ?_
            show pm_E _ _ _ 87 [(0, .ref (pl 13)), (1, .int (iI i)), (2, .int (iI z_2))] [] _ _ _ _
            refine pm_e_inc (y := iI (i + (-1))) pm_a56_87 rfl (iI_add _ _) (by decide +kernel) rfl ?_
            show pm_E _ _ _ 90 [(0, .ref (pl 13)), (1, .int (iI (i + (-1)))), (2, .int (iI z_2))] [] _ _ _ _
            refine pm_e_goto pm_a56_90 rfl ?_
            show pm_E _ _ _ 15 [(0, .ref (pl 13)), (1, .int (iI (i + (-1)))), (2, .int (iI z_2))] [] _ _ _ _
            show pm_E _ _ _ 15 ([(0, .ref (pl 13)), (1, .int (iI (i + (-1))))] ++ [(2, .int (iI z_2))]) [] _ _ _ _
            refine pm_e_more [(2, .int (iI z_2))] (show ([0, 1, 2] : List Nat).Nodup from by decide) ?_
            have f_9 := (teF_p14 (v := i) (teF_t f_8 g_8) ⟨by omega, by omega⟩)
            exact ih (i + (-1)) _ _ (by omega) (by omega) f_9.2.2 (fun s2 a2 f2 => k s2 a2 (teF_t f_9 f2)) (by omega)
        · skip
          show pm_E _ _ _ 55 [(0, .ref (pl 13)), (1, .int (iI i)), (2, .int (iI z_2))] [] _ _ _ _
          refine pm_e_sim pm_a56_55 rfl ?_
          show pm_E _ _ _ 56 [(0, .ref (pl 13)), (1, .int (iI i)), (2, .int (iI z_2))] [.ref (pl 13)] _ _ _ _
          refine pm_e_sim pm_a56_56 rfl ?_
          show pm_E _ _ _ 57 [(0, .ref (pl 13)), (1, .int (iI i)), (2, .int (iI z_2))] [.ref (pl 13), .ref (pl 13)] _ _ _ _
          refine pm_i_get pm_a56_57 rfl (cg_13 hW) rfl ?_
          show pm_E _ _ _ 60 [(0, .ref (pl 13)), (1, .int (iI i)), (2, .int (iI z_2))] [.int (iI (s 15)), .ref (pl 13)] _ _ _ _
          refine pm_e_sim pm_a56_60 rfl ?_
          refine pm_e_top (y := iI 1) (by decide +kernel) ?_
          show pm_E _ _ _ 61 [(0, .ref (pl 13)), (1, .int (iI i)), (2, .int (iI z_2))] [.int (iI 1), .int (iI (s 15)), .ref (pl 13)] _ _ _ _
          refine pm_e_sim pm_a56_61 rfl ?_
          refine pm_e_top (y := iI (s 15 - 1)) (iI_sub _ _) ?_
          refine pm_e_hav (fun z_10 bz_10 => ?_)
          obtain ⟨_, _⟩ := bz_10
          show pm_E _ _ _ 62 [(0, .ref (pl 13)), (1, .int (iI i)), (2, .int (iI z_2))] [.int (iI z_10), .ref (pl 13)] _ _ _ _
          refine pm_i_put pm_a56_62 rfl (cg_13 hW) rfl (Nat.le_of_ble_eq_true rfl) (Or.inl rfl) (cw_15 hW z_10) ?_
          show pm_E _ _ _ 65 [(0, .ref (pl 13)), (1, .int (iI i)), (2, .int (iI z_2))] [] _ _ _ _
          refine pm_e_sim pm_a56_65 rfl ?_
          show pm_E _ _ _ 66 [(0, .ref (pl 13)), (1, .int (iI i)), (2, .int (iI z_2))] [.ref (pl 13)] _ _ _ _
          refine pm_i_get pm_a56_66 rfl (cg_13 hW) rfl ?_
          show pm_E _ _ _ 69 [(0, .ref (pl 13)), (1, .int (iI i)), (2, .int (iI z_2))] [.ref (pl 14)] _ _ _ _
          refine pm_e_sim pm_a56_69 rfl ?_
          show pm_E _ _ _ 70 [(0, .ref (pl 13)), (1, .int (iI i)), (2, .int (iI z_2))] [.int (iI i), .ref (pl 14)] _ _ _ _
          refine pm_i_ald pm_a56_70 (cg_14 hW) (by omega) (by omega) ⟨by omega, by omega⟩ ?_
          show pm_E _ _ _ 71 [(0, .ref (pl 13)), (1, .int (iI i)), (2, .int (iI z_2))] [.int (iI ((a 6) (i)))] _ _ _ _
          refine pm_e_sim pm_a56_71 rfl ?_
          refine pm_e_top (y := iI 4) (by decide +kernel) ?_
          show pm_E _ _ _ 72 [(0, .ref (pl 13)), (1, .int (iI i)), (2, .int (iI z_2))] [.int (iI 4), .int (iI ((a 6) (i)))] _ _ _ _
          refine pm_e_sim pm_a56_72 rfl ?_
          refine pm_e_hav (fun z_11 bz_11 => ?_)
          obtain ⟨_, _⟩ := bz_11
          show pm_E _ _ _ 73 [(0, .ref (pl 13)), (1, .int (iI i)), (2, .int (iI z_2))] [.int (iI z_11)] _ _ _ _
          refine pm_i_eq (t := 82) pm_a56_73 rfl ⟨by omega, by omega⟩ (fun h_12 => ?_) (fun h_12 => ?_)
          · skip
            show pm_E _ _ _ 82 [(0, .ref (pl 13)), (1, .int (iI i)), (2, .int (iI z_2))] [] _ _ _ _
            refine pm_e_sim pm_a56_82 rfl ?_
            show pm_E _ _ _ 83 [(0, .ref (pl 13)), (1, .int (iI i)), (2, .int (iI z_2))] [.ref (pl 13)] _ _ _ _
            refine pm_e_sim pm_a56_83 rfl ?_
            show pm_E _ _ _ 84 [(0, .ref (pl 13)), (1, .int (iI i)), (2, .int (iI z_2))] [.int (iI i), .ref (pl 13)] _ _ _ _
            refine pm_i_put pm_a56_84 rfl (cg_13 hW) rfl (Nat.le_of_ble_eq_true rfl) (Or.inl rfl) (cw_14 hW i) ?_
            show pm_E _ _ _ 87 [(0, .ref (pl 13)), (1, .int (iI i)), (2, .int (iI z_2))] [] _ _ _ _
            refine pm_e_inc (y := iI (i + (-1))) pm_a56_87 rfl (iI_add _ _) (by decide +kernel) rfl ?_
            show pm_E _ _ _ 90 [(0, .ref (pl 13)), (1, .int (iI (i + (-1)))), (2, .int (iI z_2))] [] _ _ _ _
            refine pm_e_goto pm_a56_90 rfl ?_
            show pm_E _ _ _ 15 [(0, .ref (pl 13)), (1, .int (iI (i + (-1)))), (2, .int (iI z_2))] [] _ _ _ _
            show pm_E _ _ _ 15 ([(0, .ref (pl 13)), (1, .int (iI (i + (-1))))] ++ [(2, .int (iI z_2))]) [] _ _ _ _
            refine pm_e_more [(2, .int (iI z_2))] (show ([0, 1, 2] : List Nat).Nodup from by decide) ?_
            have f_13 := (teF_p14 (v := i) (teF_p15 (v := z_10) (teF_r (a := a) ho) ⟨by omega, by omega⟩) ⟨by omega, by omega⟩)
            exact ih (i + (-1)) _ _ (by omega) (by omega) f_13.2.2 (fun s2 a2 f2 => k s2 a2 (teF_t f_13 f2)) (by omega)
          · skip
            show pm_E _ _ _ 76 [(0, .ref (pl 13)), (1, .int (iI i)), (2, .int (iI z_2))] [] _ _ _ _
            refine pm_e_sim pm_a56_76 rfl ?_
            show pm_E _ _ _ 77 [(0, .ref (pl 13)), (1, .int (iI i)), (2, .int (iI z_2))] [.ref (pl 13)] _ _ _ _
            refine pm_e_sim pm_a56_77 rfl ?_
            refine pm_e_top (y := iI 41) (by decide +kernel) ?_
            show pm_E _ _ _ 79 [(0, .ref (pl 13)), (1, .int (iI i)), (2, .int (iI z_2))] [.int (iI 41), .ref (pl 13)] _ _ _ _
            refine pm_i_callv (k := (pl 13)) (T2 := pm_mm52) pm_a56_79 rfl rfl rfl (cg_13 hW) ⟨Nat.le_of_ble_eq_true rfl, Nat.le_of_ble_eq_true rfl, rfl, by decide +kernel⟩ ?_
            show pm_E none _ _ 0 [(0, .ref (pl 13)), (1, .int (iI 41))] [] _ _ _ _
            have f_14 := (teF_p15 (v := z_10) (teF_r (a := a) ho) ⟨by omega, by omega⟩)
            refine C_e_tell hW f_14.2.2 (by decide) (fun s_14 a_14 g_14 => ?_)
            have e_14 := g_14.2.2
            obtain ⟨⟨_, _⟩, ⟨_, _⟩, ⟨_, _⟩, ⟨_, _⟩, ⟨_, _⟩⟩ := e_14
            show pm_E _ _ _ 82 [(0, .ref (pl 13)), (1, .int (iI i)), (2, .int (iI z_2))] [] _ _ _ _
            refine pm_e_sim pm_a56_82 rfl ?_
            show pm_E _ _ _ 83 [(0, .ref (pl 13)), (1, .int (iI i)), (2, .int (iI z_2))] [.ref (pl 13)] _ _ _ _
            refine pm_e_sim pm_a56_83 rfl ?_
            show pm_E _ _ _ 84 [(0, .ref (pl 13)), (1, .int (iI i)), (2, .int (iI z_2))] [.int (iI i), .ref (pl 13)] _ _ _ _
            refine pm_i_put pm_a56_84 rfl (cg_13 hW) rfl (Nat.le_of_ble_eq_true rfl) (Or.inl rfl) (cw_14 hW i) ?_
            show pm_E _ _ _ 87 [(0, .ref (pl 13)), (1, .int (iI i)), (2, .int (iI z_2))] [] _ _ _ _
            refine pm_e_inc (y := iI (i + (-1))) pm_a56_87 rfl (iI_add _ _) (by decide +kernel) rfl ?_
            show pm_E _ _ _ 90 [(0, .ref (pl 13)), (1, .int (iI (i + (-1)))), (2, .int (iI z_2))] [] _ _ _ _
            refine pm_e_goto pm_a56_90 rfl ?_
            show pm_E _ _ _ 15 [(0, .ref (pl 13)), (1, .int (iI (i + (-1)))), (2, .int (iI z_2))] [] _ _ _ _
            show pm_E _ _ _ 15 ([(0, .ref (pl 13)), (1, .int (iI (i + (-1))))] ++ [(2, .int (iI z_2))]) [] _ _ _ _
            refine pm_e_more [(2, .int (iI z_2))] (show ([0, 1, 2] : List Nat).Nodup from by decide) ?_
            have f_15 := (teF_p14 (v := i) (teF_t f_14 g_14) ⟨by omega, by omega⟩)
            exact ih (i + (-1)) _ _ (by omega) (by omega) f_15.2.2 (fun s2 a2 f2 => k s2 a2 (teF_t f_15 f2)) (by omega)
      · skip
        show pm_E _ _ _ 33 [(0, .ref (pl 13)), (1, .int (iI i)), (2, .int (iI z_2))] [] _ _ _ _
        refine pm_e_sim pm_a56_33 rfl ?_
        show pm_E _ _ _ 34 [(0, .ref (pl 13)), (1, .int (iI i)), (2, .int (iI z_2))] [.ref (pl 13)] _ _ _ _
        refine pm_e_sim pm_a56_34 rfl ?_
        refine pm_e_top (y := iI 32) (by decide +kernel) ?_
        show pm_E _ _ _ 36 [(0, .ref (pl 13)), (1, .int (iI i)), (2, .int (iI z_2))] [.int (iI 32), .ref (pl 13)] _ _ _ _
        refine pm_i_callv (k := (pl 13)) (T2 := pm_mm52) pm_a56_36 rfl rfl rfl (cg_13 hW) ⟨Nat.le_of_ble_eq_true rfl, Nat.le_of_ble_eq_true rfl, rfl, by decide +kernel⟩ ?_
        show pm_E none _ _ 0 [(0, .ref (pl 13)), (1, .int (iI 32))] [] _ _ _ _
        have f_16 := (teF_r (a := a) ho)
        refine C_e_tell hW f_16.2.2 (by decide) (fun s_16 a_16 g_16 => ?_)
        have e_16 := g_16.2.2
        obtain ⟨⟨_, _⟩, ⟨_, _⟩, ⟨_, _⟩, ⟨_, _⟩, ⟨_, _⟩⟩ := e_16
        show pm_E _ _ _ 39 [(0, .ref (pl 13)), (1, .int (iI i)), (2, .int (iI z_2))] [] _ _ _ _
        refine pm_e_sim pm_a56_39 rfl ?_
        show pm_E _ _ _ 40 [(0, .ref (pl 13)), (1, .int (iI i)), (2, .int (iI z_2))] [.ref (pl 13)] _ _ _ _
        refine pm_i_get pm_a56_40 rfl (cg_13 hW) rfl ?_
        show pm_E _ _ _ 43 [(0, .ref (pl 13)), (1, .int (iI i)), (2, .int (iI z_2))] [.ref (pl 14)] _ _ _ _
        refine pm_e_sim pm_a56_43 rfl ?_
        show pm_E _ _ _ 44 [(0, .ref (pl 13)), (1, .int (iI i)), (2, .int (iI z_2))] [.int (iI i), .ref (pl 14)] _ _ _ _
        refine pm_e_sim pm_a56_44 rfl ?_
        show pm_E _ _ _ 45 [(0, .ref (pl 13)), (1, .int (iI i)), (2, .int (iI z_2))] [.int (iI i), .ref (pl 14), .int (iI i), .ref (pl 14)] _ _ _ _
        refine pm_i_ald pm_a56_45 (cg_14 hW) (by omega) (by omega) ⟨by omega, by omega⟩ ?_
        show pm_E _ _ _ 46 [(0, .ref (pl 13)), (1, .int (iI i)), (2, .int (iI z_2))] [.int (iI ((a_16 6) (i))), .int (iI i), .ref (pl 14)] _ _ _ _
        refine pm_e_sim pm_a56_46 rfl ?_
        refine pm_e_top (y := iI 1) (by decide +kernel) ?_
        show pm_E _ _ _ 47 [(0, .ref (pl 13)), (1, .int (iI i)), (2, .int (iI z_2))] [.int (iI 1), .int (iI ((a_16 6) (i))), .int (iI i), .ref (pl 14)] _ _ _ _
        refine pm_e_sim pm_a56_47 rfl ?_
        refine pm_e_hav (fun z_17 bz_17 => ?_)
        obtain ⟨_, _⟩ := bz_17
        show pm_E _ _ _ 48 [(0, .ref (pl 13)), (1, .int (iI i)), (2, .int (iI z_2))] [.int (iI z_17), .int (iI i), .ref (pl 14)] _ _ _ _
        refine pm_i_ast pm_a56_48 (cg_14 hW) (by omega) (by omega) ⟨by omega, by omega⟩ (ca_14 hW _) ?_
        show pm_E _ _ _ 49 [(0, .ref (pl 13)), (1, .int (iI i)), (2, .int (iI z_2))] [] _ _ _ _
        refine pm_e_ret pm_a56_49 rfl rfl rfl rfl rfl rfl rfl rfl ?_
        exact k _ _ (teF_a (teF_t f_16 g_16))
set_option maxHeartbeats 4000000 in
set_option maxRecDepth 100000 in
theorem C_e_leaveEnded {d n : Nat} {kd pl : Nat → Nat} {s : Nat → Int} {a : Nat → Int → Int} {c : Nat → cdt} {M : List va_E} {Q : Option Value → List va_E → Nat → Nat → Prop} (hW : wf n kd pl) (ho : teO s) (k : ∀ s' a', teF s a s' a' → Q none (ch n kd pl s' a' c M) 0 0) : pm_E none (d + 1) pm_mm56 0 [(0, .ref (pl 13))] [] (ch n kd pl s a c M) 0 0 Q := by
  obtain ⟨⟨_, _⟩, ⟨_, _⟩, ⟨_, _⟩, ⟨_, _⟩, ⟨_, _⟩⟩ := id ho
  refine pm_e_sim pm_a56_0 rfl ?_
  show pm_E _ _ _ 1 [(0, .ref (pl 13))] [.ref (pl 13)] _ _ _ _
  refine pm_i_get pm_a56_1 rfl (cg_13 hW) rfl ?_
  show pm_E _ _ _ 4 [(0, .ref (pl 13))] [.int (iI (s 14))] _ _ _ _
  refine pm_e_sim pm_a56_4 rfl ?_
  show pm_E _ _ _ 5 [(0, .ref (pl 13))] [.ref (pl 13), .int (iI (s 14))] _ _ _ _
  refine pm_i_get pm_a56_5 rfl (cg_13 hW) rfl ?_
  show pm_E _ _ _ 8 [(0, .ref (pl 13))] [.ref (pl 14), .int (iI (s 14))] _ _ _ _
  refine pm_i_aln pm_a56_8 (cg_14 hW) ?_
  show pm_E _ _ _ 9 [(0, .ref (pl 13))] [.int (iI 500), .int (iI (s 14))] _ _ _ _
  refine pm_i_min pm_a56_9 rfl (Nat.le_of_ble_eq_true rfl) ⟨by omega, by omega⟩ ⟨by omega, by omega⟩ ?_
  show pm_E _ _ _ 12 [(0, .ref (pl 13))] [.int (iI (min (s 14) 500))] _ _ _ _
  refine pm_e_sim pm_a56_12 rfl ?_
  refine pm_e_top (y := iI 1) (by decide +kernel) ?_
  show pm_E _ _ _ 13 [(0, .ref (pl 13))] [.int (iI 1), .int (iI (min (s 14) 500))] _ _ _ _
  refine pm_e_sim pm_a56_13 rfl ?_
  refine pm_e_top (y := iI (min (s 14) 500 - 1)) (iI_sub _ _) ?_
  show pm_E _ _ _ 14 [(0, .ref (pl 13))] [.int (iI (min (s 14) 500 - 1))] _ _ _ _
  refine pm_e_sim pm_a56_14 rfl ?_
  show pm_E _ _ _ 15 [(0, .ref (pl 13)), (1, .int (iI (min (s 14) 500 - 1)))] [] _ _ _ _
  have f_1 := (teF_r (a := a) ho)
  exact C_e_leave_l hW 501 (min (s 14) 500 - 1) _ _ (by omega) (by omega) f_1.2.2 (fun s2 a2 f2 => k s2 a2 (teF_t f_1 f2)) (by omega)
set_option maxHeartbeats 4000000 in
set_option maxRecDepth 100000 in
theorem C_e_tellNode {d n : Nat} {kd pl : Nat → Nat} {s : Nat → Int} {a : Nat → Int → Int} {c : Nat → cdt} {M : List va_E} {Q : Option Value → List va_E → Nat → Nat → Prop} {x : Int} (hW : wf n kd pl) (ho : teO s) (hx : in32 x) (k : ∀ s' a', teF s a s' a' → Q none (ch n kd pl s' a' c M) 0 0) : pm_E none (d + 5) pm_mm50 0 [(0, .ref (pl 13)), (1, .int (iI x))] [] (ch n kd pl s a c M) 0 0 Q := by
  obtain ⟨⟨_, _⟩, ⟨_, _⟩, ⟨_, _⟩, ⟨_, _⟩, ⟨_, _⟩⟩ := id ho
  obtain ⟨_, _⟩ := id hx
  refine pm_e_sim pm_a50_0 rfl ?_
  show pm_E _ _ _ 1 [(0, .ref (pl 13)), (1, .int (iI x))] [.ref (pl 13)] _ _ _ _
  refine pm_e_sim pm_a50_1 rfl ?_
  show pm_E _ _ _ 2 [(0, .ref (pl 13)), (1, .int (iI x))] [.int (iI x), .ref (pl 13)] _ _ _ _
  refine pm_i_callv (k := (pl 13)) (T2 := pm_mm51) pm_a50_2 rfl rfl rfl (cg_13 hW) ⟨Nat.le_of_ble_eq_true rfl, Nat.le_of_ble_eq_true rfl, rfl, by decide +kernel⟩ ?_
  show pm_E none _ _ 0 [(0, .ref (pl 13)), (1, .int (iI x))] [] _ _ _ _
  have f_1 := (teF_r (a := a) ho)
  refine C_e_isWrapped hW f_1.2.2 ⟨by omega, by omega⟩ ?_ ?_
  · skip
    show pm_E _ _ _ 5 [(0, .ref (pl 13)), (1, .int (iI x))] [.int (iI 1)] _ _ _ _
    refine pm_e_iff pm_a50_5 rfl (by decide +kernel) ?_
    show pm_E _ _ _ 8 [(0, .ref (pl 13)), (1, .int (iI x))] [] _ _ _ _
    refine pm_e_sim pm_a50_8 rfl ?_
    refine pm_e_top (y := iI 4) (by decide +kernel) ?_
    show pm_E _ _ _ 9 [(0, .ref (pl 13)), (1, .int (iI x))] [.int (iI 4)] _ _ _ _
    refine pm_e_goto pm_a50_9 rfl ?_
    show pm_E _ _ _ 13 [(0, .ref (pl 13)), (1, .int (iI x))] [.int (iI 4)] _ _ _ _
    refine pm_e_sim pm_a50_13 rfl ?_
    show pm_E _ _ _ 14 [(0, .ref (pl 13)), (1, .int (iI x)), (2, .int (iI 4))] [] _ _ _ _
    refine pm_e_sim pm_a50_14 rfl ?_
    show pm_E _ _ _ 15 [(0, .ref (pl 13)), (1, .int (iI x)), (2, .int (iI 4))] [.int (iI 4)] _ _ _ _
    refine pm_e_iff pm_a50_15 rfl (by decide +kernel) ?_
    show pm_E _ _ _ 18 [(0, .ref (pl 13)), (1, .int (iI x)), (2, .int (iI 4))] [] _ _ _ _
    refine pm_e_sim pm_a50_18 rfl ?_
    show pm_E _ _ _ 19 [(0, .ref (pl 13)), (1, .int (iI x)), (2, .int (iI 4))] [.ref (pl 13)] _ _ _ _
    refine pm_e_sim pm_a50_19 rfl ?_
    refine pm_e_top (y := iI 40) (by decide +kernel) ?_
    show pm_E _ _ _ 21 [(0, .ref (pl 13)), (1, .int (iI x)), (2, .int (iI 4))] [.int (iI 40), .ref (pl 13)] _ _ _ _
    refine pm_i_callv (k := (pl 13)) (T2 := pm_mm52) pm_a50_21 rfl rfl rfl (cg_13 hW) ⟨Nat.le_of_ble_eq_true rfl, Nat.le_of_ble_eq_true rfl, rfl, by decide +kernel⟩ ?_
    show pm_E none _ _ 0 [(0, .ref (pl 13)), (1, .int (iI 40))] [] _ _ _ _
    have f_2 := f_1
    refine C_e_tell hW f_2.2.2 (by decide) (fun s_2 a_2 g_2 => ?_)
    have e_2 := g_2.2.2
    obtain ⟨⟨_, _⟩, ⟨_, _⟩, ⟨_, _⟩, ⟨_, _⟩, ⟨_, _⟩⟩ := e_2
    show pm_E _ _ _ 24 [(0, .ref (pl 13)), (1, .int (iI x)), (2, .int (iI 4))] [] _ _ _ _
    refine pm_e_sim pm_a50_24 rfl ?_
    show pm_E _ _ _ 25 [(0, .ref (pl 13)), (1, .int (iI x)), (2, .int (iI 4))] [.int (iI x)] _ _ _ _
    refine pm_i_ne (t := 38) pm_a50_25 rfl ⟨by omega, by omega⟩ (fun h_3 => ?_) (fun h_3 => ?_)
    · skip
      show pm_E _ _ _ 38 [(0, .ref (pl 13)), (1, .int (iI x)), (2, .int (iI 4))] [] _ _ _ _
      refine pm_e_sim pm_a50_38 rfl ?_
      show pm_E _ _ _ 39 [(0, .ref (pl 13)), (1, .int (iI x)), (2, .int (iI 4))] [.int (iI x)] _ _ _ _
      refine pm_e_sim pm_a50_39 rfl ?_
      refine pm_e_top (y := iI 1) (by decide +kernel) ?_
      show pm_E _ _ _ 40 [(0, .ref (pl 13)), (1, .int (iI x)), (2, .int (iI 4))] [.int (iI 1), .int (iI x)] _ _ _ _
      refine pm_c_ne (t := 83) pm_a50_40 rfl ⟨by omega, by omega⟩ ⟨by omega, by omega⟩ (fun h_4 => ?_) (fun h_4 => ?_)
      · skip
        show pm_E _ _ _ 83 [(0, .ref (pl 13)), (1, .int (iI x)), (2, .int (iI 4))] [] _ _ _ _
        refine pm_e_sim pm_a50_83 rfl ?_
        show pm_E _ _ _ 84 [(0, .ref (pl 13)), (1, .int (iI x)), (2, .int (iI 4))] [.ref (pl 13)] _ _ _ _
        refine pm_e_sim pm_a50_84 rfl ?_
        show pm_E _ _ _ 85 [(0, .ref (pl 13)), (1, .int (iI x)), (2, .int (iI 4))] [.int (iI x), .ref (pl 13)] _ _ _ _
        refine pm_i_callv (k := (pl 13)) (T2 := pm_mm55) pm_a50_85 rfl rfl rfl (cg_13 hW) ⟨Nat.le_of_ble_eq_true rfl, Nat.le_of_ble_eq_true rfl, rfl, by decide +kernel⟩ ?_
        show pm_E none _ _ 0 [(0, .ref (pl 13)), (1, .int (iI x))] [] _ _ _ _
        have f_5 := (teF_t f_2 g_2)
        refine C_e_tellLeaf hW f_5.2.2 ⟨by omega, by omega⟩ (fun s_5 a_5 g_5 => ?_)
        have e_5 := g_5.2.2
        obtain ⟨⟨_, _⟩, ⟨_, _⟩, ⟨_, _⟩, ⟨_, _⟩, ⟨_, _⟩⟩ := e_5
        show pm_E _ _ _ 88 [(0, .ref (pl 13)), (1, .int (iI x)), (2, .int (iI 4))] [] _ _ _ _
        refine pm_e_sim pm_a50_88 rfl ?_
        show pm_E _ _ _ 89 [(0, .ref (pl 13)), (1, .int (iI x)), (2, .int (iI 4))] [.ref (pl 13)] _ _ _ _
        refine pm_i_callv (k := (pl 13)) (T2 := pm_mm56) pm_a50_89 rfl rfl rfl (cg_13 hW) ⟨Nat.le_of_ble_eq_true rfl, Nat.le_of_ble_eq_true rfl, rfl, by decide +kernel⟩ ?_
        show pm_E none _ _ 0 [(0, .ref (pl 13))] [] _ _ _ _
        have f_6 := (teF_t f_5 g_5)
        refine C_e_leaveEnded hW f_6.2.2  (fun s_6 a_6 g_6 => ?_)
        have e_6 := g_6.2.2
        obtain ⟨⟨_, _⟩, ⟨_, _⟩, ⟨_, _⟩, ⟨_, _⟩, ⟨_, _⟩⟩ := e_6
        show pm_E _ _ _ 92 [(0, .ref (pl 13)), (1, .int (iI x)), (2, .int (iI 4))] [] _ _ _ _
        refine pm_e_ret pm_a50_92 rfl rfl rfl rfl rfl rfl rfl rfl ?_
        exact k _ _ (teF_t f_6 g_6)
      · skip
        show pm_E _ _ _ 43 [(0, .ref (pl 13)), (1, .int (iI x)), (2, .int (iI 4))] [] _ _ _ _
        refine pm_e_sim pm_a50_43 rfl ?_
        show pm_E _ _ _ 44 [(0, .ref (pl 13)), (1, .int (iI x)), (2, .int (iI 4))] [.ref (pl 13)] _ _ _ _
        refine pm_e_sim pm_a50_44 rfl ?_
        refine pm_e_top (y := iI 92) (by decide +kernel) ?_
        show pm_E _ _ _ 46 [(0, .ref (pl 13)), (1, .int (iI x)), (2, .int (iI 4))] [.int (iI 92), .ref (pl 13)] _ _ _ _
        refine pm_i_callv (k := (pl 13)) (T2 := pm_mm52) pm_a50_46 rfl rfl rfl (cg_13 hW) ⟨Nat.le_of_ble_eq_true rfl, Nat.le_of_ble_eq_true rfl, rfl, by decide +kernel⟩ ?_
        show pm_E none _ _ 0 [(0, .ref (pl 13)), (1, .int (iI 92))] [] _ _ _ _
        have f_7 := (teF_t f_2 g_2)
        refine C_e_tell hW f_7.2.2 (by decide) (fun s_7 a_7 g_7 => ?_)
        have e_7 := g_7.2.2
        obtain ⟨⟨_, _⟩, ⟨_, _⟩, ⟨_, _⟩, ⟨_, _⟩, ⟨_, _⟩⟩ := e_7
        show pm_E _ _ _ 49 [(0, .ref (pl 13)), (1, .int (iI x)), (2, .int (iI 4))] [] _ _ _ _
        refine pm_e_sim pm_a50_49 rfl ?_
        show pm_E _ _ _ 50 [(0, .ref (pl 13)), (1, .int (iI x)), (2, .int (iI 4))] [.ref (pl 13)] _ _ _ _
        refine pm_e_sim pm_a50_50 rfl ?_
        show pm_E _ _ _ 51 [(0, .ref (pl 13)), (1, .int (iI x)), (2, .int (iI 4))] [.ref (pl 13), .ref (pl 13)] _ _ _ _
        refine pm_i_get pm_a50_51 rfl (cg_13 hW) rfl ?_
        show pm_E _ _ _ 54 [(0, .ref (pl 13)), (1, .int (iI x)), (2, .int (iI 4))] [.int (iI (s_7 15)), .ref (pl 13)] _ _ _ _
        refine pm_i_callv (k := (pl 13)) (T2 := pm_mm54) pm_a50_54 rfl rfl rfl (cg_13 hW) ⟨Nat.le_of_ble_eq_true rfl, Nat.le_of_ble_eq_true rfl, rfl, by decide +kernel⟩ ?_
        show pm_E none _ _ 0 [(0, .ref (pl 13)), (1, .int (iI (s_7 15)))] [] _ _ _ _
        have f_8 := (teF_t f_7 g_7)
        refine C_e_tellName hW f_8.2.2 ⟨by omega, by omega⟩ (fun s_8 a_8 g_8 => ?_)
        have e_8 := g_8.2.2
        obtain ⟨⟨_, _⟩, ⟨_, _⟩, ⟨_, _⟩, ⟨_, _⟩, ⟨_, _⟩⟩ := e_8
        show pm_E _ _ _ 57 [(0, .ref (pl 13)), (1, .int (iI x)), (2, .int (iI 4))] [] _ _ _ _
        refine pm_e_sim pm_a50_57 rfl ?_
        show pm_E _ _ _ 58 [(0, .ref (pl 13)), (1, .int (iI x)), (2, .int (iI 4))] [.ref (pl 13)] _ _ _ _
        refine pm_e_sim pm_a50_58 rfl ?_
        refine pm_e_top (y := iI 46) (by decide +kernel) ?_
        show pm_E _ _ _ 60 [(0, .ref (pl 13)), (1, .int (iI x)), (2, .int (iI 4))] [.int (iI 46), .ref (pl 13)] _ _ _ _
        refine pm_i_callv (k := (pl 13)) (T2 := pm_mm52) pm_a50_60 rfl rfl rfl (cg_13 hW) ⟨Nat.le_of_ble_eq_true rfl, Nat.le_of_ble_eq_true rfl, rfl, by decide +kernel⟩ ?_
        show pm_E none _ _ 0 [(0, .ref (pl 13)), (1, .int (iI 46))] [] _ _ _ _
        have f_9 := (teF_t f_8 g_8)
        refine C_e_tell hW f_9.2.2 (by decide) (fun s_9 a_9 g_9 => ?_)
        have e_9 := g_9.2.2
        obtain ⟨⟨_, _⟩, ⟨_, _⟩, ⟨_, _⟩, ⟨_, _⟩, ⟨_, _⟩⟩ := e_9
        show pm_E _ _ _ 63 [(0, .ref (pl 13)), (1, .int (iI x)), (2, .int (iI 4))] [] _ _ _ _
        refine pm_e_sim pm_a50_63 rfl ?_
        show pm_E _ _ _ 64 [(0, .ref (pl 13)), (1, .int (iI x)), (2, .int (iI 4))] [.ref (pl 13)] _ _ _ _
        refine pm_e_sim pm_a50_64 rfl ?_
        show pm_E _ _ _ 65 [(0, .ref (pl 13)), (1, .int (iI x)), (2, .int (iI 4))] [.ref (pl 13), .ref (pl 13)] _ _ _ _
        refine pm_i_get pm_a50_65 rfl (cg_13 hW) rfl ?_
        show pm_E _ _ _ 68 [(0, .ref (pl 13)), (1, .int (iI x)), (2, .int (iI 4))] [.int (iI (s_9 15)), .ref (pl 13)] _ _ _ _
        refine pm_e_sim pm_a50_68 rfl ?_
        refine pm_e_top (y := iI 1) (by decide +kernel) ?_
        show pm_E _ _ _ 69 [(0, .ref (pl 13)), (1, .int (iI x)), (2, .int (iI 4))] [.int (iI 1), .int (iI (s_9 15)), .ref (pl 13)] _ _ _ _
        refine pm_e_sim pm_a50_69 rfl ?_
        refine pm_e_top (y := iI (s_9 15 + 1)) (iI_add _ _) ?_
        refine pm_e_hav (fun z_10 bz_10 => ?_)
        obtain ⟨_, _⟩ := bz_10
        show pm_E _ _ _ 70 [(0, .ref (pl 13)), (1, .int (iI x)), (2, .int (iI 4))] [.int (iI z_10), .ref (pl 13)] _ _ _ _
        refine pm_i_put pm_a50_70 rfl (cg_13 hW) rfl (Nat.le_of_ble_eq_true rfl) (Or.inl rfl) (cw_15 hW z_10) ?_
        show pm_E _ _ _ 73 [(0, .ref (pl 13)), (1, .int (iI x)), (2, .int (iI 4))] [] _ _ _ _
        refine pm_e_sim pm_a50_73 rfl ?_
        show pm_E _ _ _ 74 [(0, .ref (pl 13)), (1, .int (iI x)), (2, .int (iI 4))] [.ref (pl 13)] _ _ _ _
        refine pm_e_sim pm_a50_74 rfl ?_
        refine pm_e_top (y := iI 2) (by decide +kernel) ?_
        show pm_E _ _ _ 75 [(0, .ref (pl 13)), (1, .int (iI x)), (2, .int (iI 4))] [.int (iI 2), .ref (pl 13)] _ _ _ _
        refine pm_e_sim pm_a50_75 rfl ?_
        show pm_E _ _ _ 76 [(0, .ref (pl 13)), (1, .int (iI x)), (2, .int (iI 4))] [.int (iI 4), .int (iI 2), .ref (pl 13)] _ _ _ _
        refine pm_e_sim pm_a50_76 rfl ?_
        refine pm_e_hav (fun z_11 bz_11 => ?_)
        obtain ⟨_, _⟩ := bz_11
        show pm_E _ _ _ 77 [(0, .ref (pl 13)), (1, .int (iI x)), (2, .int (iI 4))] [.int (iI z_11), .ref (pl 13)] _ _ _ _
        refine pm_i_callv (k := (pl 13)) (T2 := pm_mm53) pm_a50_77 rfl rfl rfl (cg_13 hW) ⟨Nat.le_of_ble_eq_true rfl, Nat.le_of_ble_eq_true rfl, rfl, by decide +kernel⟩ ?_
        show pm_E none _ _ 0 [(0, .ref (pl 13)), (1, .int (iI z_11))] [] _ _ _ _
        have f_12 := (teF_p15 (v := z_10) (teF_t f_9 g_9) ⟨by omega, by omega⟩)
        refine C_e_goInto hW f_12.2.2 ⟨by omega, by omega⟩ (fun s_12 a_12 g_12 => ?_)
        have e_12 := g_12.2.2
        obtain ⟨⟨_, _⟩, ⟨_, _⟩, ⟨_, _⟩, ⟨_, _⟩, ⟨_, _⟩⟩ := e_12
        show pm_E _ _ _ 80 [(0, .ref (pl 13)), (1, .int (iI x)), (2, .int (iI 4))] [] _ _ _ _
        refine pm_e_goto pm_a50_80 rfl ?_
        show pm_E _ _ _ 92 [(0, .ref (pl 13)), (1, .int (iI x)), (2, .int (iI 4))] [] _ _ _ _
        refine pm_e_ret pm_a50_92 rfl rfl rfl rfl rfl rfl rfl rfl ?_
        exact k _ _ (teF_t f_12 g_12)
    · skip
      show pm_E _ _ _ 28 [(0, .ref (pl 13)), (1, .int (iI x)), (2, .int (iI 4))] [] _ _ _ _
      refine pm_e_sim pm_a50_28 rfl ?_
      show pm_E _ _ _ 29 [(0, .ref (pl 13)), (1, .int (iI x)), (2, .int (iI 4))] [.ref (pl 13)] _ _ _ _
      refine pm_e_sim pm_a50_29 rfl ?_
      refine pm_e_top (y := iI 0) (by decide +kernel) ?_
      show pm_E _ _ _ 30 [(0, .ref (pl 13)), (1, .int (iI x)), (2, .int (iI 4))] [.int (iI 0), .ref (pl 13)] _ _ _ _
      refine pm_e_sim pm_a50_30 rfl ?_
      show pm_E _ _ _ 31 [(0, .ref (pl 13)), (1, .int (iI x)), (2, .int (iI 4))] [.int (iI 4), .int (iI 0), .ref (pl 13)] _ _ _ _
      refine pm_e_sim pm_a50_31 rfl ?_
      refine pm_e_hav (fun z_13 bz_13 => ?_)
      obtain ⟨_, _⟩ := bz_13
      show pm_E _ _ _ 32 [(0, .ref (pl 13)), (1, .int (iI x)), (2, .int (iI 4))] [.int (iI z_13), .ref (pl 13)] _ _ _ _
      refine pm_i_callv (k := (pl 13)) (T2 := pm_mm53) pm_a50_32 rfl rfl rfl (cg_13 hW) ⟨Nat.le_of_ble_eq_true rfl, Nat.le_of_ble_eq_true rfl, rfl, by decide +kernel⟩ ?_
      show pm_E none _ _ 0 [(0, .ref (pl 13)), (1, .int (iI z_13))] [] _ _ _ _
      have f_14 := (teF_t f_2 g_2)
      refine C_e_goInto hW f_14.2.2 ⟨by omega, by omega⟩ (fun s_14 a_14 g_14 => ?_)
      have e_14 := g_14.2.2
      obtain ⟨⟨_, _⟩, ⟨_, _⟩, ⟨_, _⟩, ⟨_, _⟩, ⟨_, _⟩⟩ := e_14
      show pm_E _ _ _ 35 [(0, .ref (pl 13)), (1, .int (iI x)), (2, .int (iI 4))] [] _ _ _ _
      refine pm_e_goto pm_a50_35 rfl ?_
      show pm_E _ _ _ 92 [(0, .ref (pl 13)), (1, .int (iI x)), (2, .int (iI 4))] [] _ _ _ _
      refine pm_e_ret pm_a50_92 rfl rfl rfl rfl rfl rfl rfl rfl ?_
      exact k _ _ (teF_t f_14 g_14)
  · skip
    show pm_E _ _ _ 5 [(0, .ref (pl 13)), (1, .int (iI x))] [.int (iI 0)] _ _ _ _
    refine pm_e_ift pm_a50_5 rfl (by decide +kernel) ?_
    show pm_E _ _ _ 12 [(0, .ref (pl 13)), (1, .int (iI x))] [] _ _ _ _
    refine pm_e_sim pm_a50_12 rfl ?_
    refine pm_e_top (y := iI 0) (by decide +kernel) ?_
    show pm_E _ _ _ 13 [(0, .ref (pl 13)), (1, .int (iI x))] [.int (iI 0)] _ _ _ _
    refine pm_e_sim pm_a50_13 rfl ?_
    show pm_E _ _ _ 14 [(0, .ref (pl 13)), (1, .int (iI x)), (2, .int (iI 0))] [] _ _ _ _
    refine pm_e_sim pm_a50_14 rfl ?_
    show pm_E _ _ _ 15 [(0, .ref (pl 13)), (1, .int (iI x)), (2, .int (iI 0))] [.int (iI 0)] _ _ _ _
    refine pm_e_ift pm_a50_15 rfl (by decide +kernel) ?_
    show pm_E _ _ _ 24 [(0, .ref (pl 13)), (1, .int (iI x)), (2, .int (iI 0))] [] _ _ _ _
    refine pm_e_sim pm_a50_24 rfl ?_
    show pm_E _ _ _ 25 [(0, .ref (pl 13)), (1, .int (iI x)), (2, .int (iI 0))] [.int (iI x)] _ _ _ _
    refine pm_i_ne (t := 38) pm_a50_25 rfl ⟨by omega, by omega⟩ (fun h_15 => ?_) (fun h_15 => ?_)
    · skip
      show pm_E _ _ _ 38 [(0, .ref (pl 13)), (1, .int (iI x)), (2, .int (iI 0))] [] _ _ _ _
      refine pm_e_sim pm_a50_38 rfl ?_
      show pm_E _ _ _ 39 [(0, .ref (pl 13)), (1, .int (iI x)), (2, .int (iI 0))] [.int (iI x)] _ _ _ _
      refine pm_e_sim pm_a50_39 rfl ?_
      refine pm_e_top (y := iI 1) (by decide +kernel) ?_
      show pm_E _ _ _ 40 [(0, .ref (pl 13)), (1, .int (iI x)), (2, .int (iI 0))] [.int (iI 1), .int (iI x)] _ _ _ _
      refine pm_c_ne (t := 83) pm_a50_40 rfl ⟨by omega, by omega⟩ ⟨by omega, by omega⟩ (fun h_16 => ?_) (fun h_16 => ?_)
      · skip
        show pm_E _ _ _ 83 [(0, .ref (pl 13)), (1, .int (iI x)), (2, .int (iI 0))] [] _ _ _ _
        refine pm_e_sim pm_a50_83 rfl ?_
        show pm_E _ _ _ 84 [(0, .ref (pl 13)), (1, .int (iI x)), (2, .int (iI 0))] [.ref (pl 13)] _ _ _ _
        refine pm_e_sim pm_a50_84 rfl ?_
        show pm_E _ _ _ 85 [(0, .ref (pl 13)), (1, .int (iI x)), (2, .int (iI 0))] [.int (iI x), .ref (pl 13)] _ _ _ _
        refine pm_i_callv (k := (pl 13)) (T2 := pm_mm55) pm_a50_85 rfl rfl rfl (cg_13 hW) ⟨Nat.le_of_ble_eq_true rfl, Nat.le_of_ble_eq_true rfl, rfl, by decide +kernel⟩ ?_
        show pm_E none _ _ 0 [(0, .ref (pl 13)), (1, .int (iI x))] [] _ _ _ _
        have f_17 := f_1
        refine C_e_tellLeaf hW f_17.2.2 ⟨by omega, by omega⟩ (fun s_17 a_17 g_17 => ?_)
        have e_17 := g_17.2.2
        obtain ⟨⟨_, _⟩, ⟨_, _⟩, ⟨_, _⟩, ⟨_, _⟩, ⟨_, _⟩⟩ := e_17
        show pm_E _ _ _ 88 [(0, .ref (pl 13)), (1, .int (iI x)), (2, .int (iI 0))] [] _ _ _ _
        refine pm_e_sim pm_a50_88 rfl ?_
        show pm_E _ _ _ 89 [(0, .ref (pl 13)), (1, .int (iI x)), (2, .int (iI 0))] [.ref (pl 13)] _ _ _ _
        refine pm_i_callv (k := (pl 13)) (T2 := pm_mm56) pm_a50_89 rfl rfl rfl (cg_13 hW) ⟨Nat.le_of_ble_eq_true rfl, Nat.le_of_ble_eq_true rfl, rfl, by decide +kernel⟩ ?_
        show pm_E none _ _ 0 [(0, .ref (pl 13))] [] _ _ _ _
        have f_18 := (teF_t f_17 g_17)
        refine C_e_leaveEnded hW f_18.2.2  (fun s_18 a_18 g_18 => ?_)
        have e_18 := g_18.2.2
        obtain ⟨⟨_, _⟩, ⟨_, _⟩, ⟨_, _⟩, ⟨_, _⟩, ⟨_, _⟩⟩ := e_18
        show pm_E _ _ _ 92 [(0, .ref (pl 13)), (1, .int (iI x)), (2, .int (iI 0))] [] _ _ _ _
        refine pm_e_ret pm_a50_92 rfl rfl rfl rfl rfl rfl rfl rfl ?_
        exact k _ _ (teF_t f_18 g_18)
      · skip
        show pm_E _ _ _ 43 [(0, .ref (pl 13)), (1, .int (iI x)), (2, .int (iI 0))] [] _ _ _ _
        refine pm_e_sim pm_a50_43 rfl ?_
        show pm_E _ _ _ 44 [(0, .ref (pl 13)), (1, .int (iI x)), (2, .int (iI 0))] [.ref (pl 13)] _ _ _ _
        refine pm_e_sim pm_a50_44 rfl ?_
        refine pm_e_top (y := iI 92) (by decide +kernel) ?_
        show pm_E _ _ _ 46 [(0, .ref (pl 13)), (1, .int (iI x)), (2, .int (iI 0))] [.int (iI 92), .ref (pl 13)] _ _ _ _
        refine pm_i_callv (k := (pl 13)) (T2 := pm_mm52) pm_a50_46 rfl rfl rfl (cg_13 hW) ⟨Nat.le_of_ble_eq_true rfl, Nat.le_of_ble_eq_true rfl, rfl, by decide +kernel⟩ ?_
        show pm_E none _ _ 0 [(0, .ref (pl 13)), (1, .int (iI 92))] [] _ _ _ _
        have f_19 := f_1
        refine C_e_tell hW f_19.2.2 (by decide) (fun s_19 a_19 g_19 => ?_)
        have e_19 := g_19.2.2
        obtain ⟨⟨_, _⟩, ⟨_, _⟩, ⟨_, _⟩, ⟨_, _⟩, ⟨_, _⟩⟩ := e_19
        show pm_E _ _ _ 49 [(0, .ref (pl 13)), (1, .int (iI x)), (2, .int (iI 0))] [] _ _ _ _
        refine pm_e_sim pm_a50_49 rfl ?_
        show pm_E _ _ _ 50 [(0, .ref (pl 13)), (1, .int (iI x)), (2, .int (iI 0))] [.ref (pl 13)] _ _ _ _
        refine pm_e_sim pm_a50_50 rfl ?_
        show pm_E _ _ _ 51 [(0, .ref (pl 13)), (1, .int (iI x)), (2, .int (iI 0))] [.ref (pl 13), .ref (pl 13)] _ _ _ _
        refine pm_i_get pm_a50_51 rfl (cg_13 hW) rfl ?_
        show pm_E _ _ _ 54 [(0, .ref (pl 13)), (1, .int (iI x)), (2, .int (iI 0))] [.int (iI (s_19 15)), .ref (pl 13)] _ _ _ _
        refine pm_i_callv (k := (pl 13)) (T2 := pm_mm54) pm_a50_54 rfl rfl rfl (cg_13 hW) ⟨Nat.le_of_ble_eq_true rfl, Nat.le_of_ble_eq_true rfl, rfl, by decide +kernel⟩ ?_
        show pm_E none _ _ 0 [(0, .ref (pl 13)), (1, .int (iI (s_19 15)))] [] _ _ _ _
        have f_20 := (teF_t f_19 g_19)
        refine C_e_tellName hW f_20.2.2 ⟨by omega, by omega⟩ (fun s_20 a_20 g_20 => ?_)
        have e_20 := g_20.2.2
        obtain ⟨⟨_, _⟩, ⟨_, _⟩, ⟨_, _⟩, ⟨_, _⟩, ⟨_, _⟩⟩ := e_20
        show pm_E _ _ _ 57 [(0, .ref (pl 13)), (1, .int (iI x)), (2, .int (iI 0))] [] _ _ _ _
        refine pm_e_sim pm_a50_57 rfl ?_
        show pm_E _ _ _ 58 [(0, .ref (pl 13)), (1, .int (iI x)), (2, .int (iI 0))] [.ref (pl 13)] _ _ _ _
        refine pm_e_sim pm_a50_58 rfl ?_
        refine pm_e_top (y := iI 46) (by decide +kernel) ?_
        show pm_E _ _ _ 60 [(0, .ref (pl 13)), (1, .int (iI x)), (2, .int (iI 0))] [.int (iI 46), .ref (pl 13)] _ _ _ _
        refine pm_i_callv (k := (pl 13)) (T2 := pm_mm52) pm_a50_60 rfl rfl rfl (cg_13 hW) ⟨Nat.le_of_ble_eq_true rfl, Nat.le_of_ble_eq_true rfl, rfl, by decide +kernel⟩ ?_
        show pm_E none _ _ 0 [(0, .ref (pl 13)), (1, .int (iI 46))] [] _ _ _ _
        have f_21 := (teF_t f_20 g_20)
        refine C_e_tell hW f_21.2.2 (by decide) (fun s_21 a_21 g_21 => ?_)
        have e_21 := g_21.2.2
        obtain ⟨⟨_, _⟩, ⟨_, _⟩, ⟨_, _⟩, ⟨_, _⟩, ⟨_, _⟩⟩ := e_21
        show pm_E _ _ _ 63 [(0, .ref (pl 13)), (1, .int (iI x)), (2, .int (iI 0))] [] _ _ _ _
        refine pm_e_sim pm_a50_63 rfl ?_
        show pm_E _ _ _ 64 [(0, .ref (pl 13)), (1, .int (iI x)), (2, .int (iI 0))] [.ref (pl 13)] _ _ _ _
        refine pm_e_sim pm_a50_64 rfl ?_
        show pm_E _ _ _ 65 [(0, .ref (pl 13)), (1, .int (iI x)), (2, .int (iI 0))] [.ref (pl 13), .ref (pl 13)] _ _ _ _
        refine pm_i_get pm_a50_65 rfl (cg_13 hW) rfl ?_
        show pm_E _ _ _ 68 [(0, .ref (pl 13)), (1, .int (iI x)), (2, .int (iI 0))] [.int (iI (s_21 15)), .ref (pl 13)] _ _ _ _
        refine pm_e_sim pm_a50_68 rfl ?_
        refine pm_e_top (y := iI 1) (by decide +kernel) ?_
        show pm_E _ _ _ 69 [(0, .ref (pl 13)), (1, .int (iI x)), (2, .int (iI 0))] [.int (iI 1), .int (iI (s_21 15)), .ref (pl 13)] _ _ _ _
        refine pm_e_sim pm_a50_69 rfl ?_
        refine pm_e_top (y := iI (s_21 15 + 1)) (iI_add _ _) ?_
        refine pm_e_hav (fun z_22 bz_22 => ?_)
        obtain ⟨_, _⟩ := bz_22
        show pm_E _ _ _ 70 [(0, .ref (pl 13)), (1, .int (iI x)), (2, .int (iI 0))] [.int (iI z_22), .ref (pl 13)] _ _ _ _
        refine pm_i_put pm_a50_70 rfl (cg_13 hW) rfl (Nat.le_of_ble_eq_true rfl) (Or.inl rfl) (cw_15 hW z_22) ?_
        show pm_E _ _ _ 73 [(0, .ref (pl 13)), (1, .int (iI x)), (2, .int (iI 0))] [] _ _ _ _
        refine pm_e_sim pm_a50_73 rfl ?_
        show pm_E _ _ _ 74 [(0, .ref (pl 13)), (1, .int (iI x)), (2, .int (iI 0))] [.ref (pl 13)] _ _ _ _
        refine pm_e_sim pm_a50_74 rfl ?_
        refine pm_e_top (y := iI 2) (by decide +kernel) ?_
        show pm_E _ _ _ 75 [(0, .ref (pl 13)), (1, .int (iI x)), (2, .int (iI 0))] [.int (iI 2), .ref (pl 13)] _ _ _ _
        refine pm_e_sim pm_a50_75 rfl ?_
        show pm_E _ _ _ 76 [(0, .ref (pl 13)), (1, .int (iI x)), (2, .int (iI 0))] [.int (iI 0), .int (iI 2), .ref (pl 13)] _ _ _ _
        refine pm_e_sim pm_a50_76 rfl ?_
        refine pm_e_hav (fun z_23 bz_23 => ?_)
        obtain ⟨_, _⟩ := bz_23
        show pm_E _ _ _ 77 [(0, .ref (pl 13)), (1, .int (iI x)), (2, .int (iI 0))] [.int (iI z_23), .ref (pl 13)] _ _ _ _
        refine pm_i_callv (k := (pl 13)) (T2 := pm_mm53) pm_a50_77 rfl rfl rfl (cg_13 hW) ⟨Nat.le_of_ble_eq_true rfl, Nat.le_of_ble_eq_true rfl, rfl, by decide +kernel⟩ ?_
        show pm_E none _ _ 0 [(0, .ref (pl 13)), (1, .int (iI z_23))] [] _ _ _ _
        have f_24 := (teF_p15 (v := z_22) (teF_t f_21 g_21) ⟨by omega, by omega⟩)
        refine C_e_goInto hW f_24.2.2 ⟨by omega, by omega⟩ (fun s_24 a_24 g_24 => ?_)
        have e_24 := g_24.2.2
        obtain ⟨⟨_, _⟩, ⟨_, _⟩, ⟨_, _⟩, ⟨_, _⟩, ⟨_, _⟩⟩ := e_24
        show pm_E _ _ _ 80 [(0, .ref (pl 13)), (1, .int (iI x)), (2, .int (iI 0))] [] _ _ _ _
        refine pm_e_goto pm_a50_80 rfl ?_
        show pm_E _ _ _ 92 [(0, .ref (pl 13)), (1, .int (iI x)), (2, .int (iI 0))] [] _ _ _ _
        refine pm_e_ret pm_a50_92 rfl rfl rfl rfl rfl rfl rfl rfl ?_
        exact k _ _ (teF_t f_24 g_24)
    · skip
      show pm_E _ _ _ 28 [(0, .ref (pl 13)), (1, .int (iI x)), (2, .int (iI 0))] [] _ _ _ _
      refine pm_e_sim pm_a50_28 rfl ?_
      show pm_E _ _ _ 29 [(0, .ref (pl 13)), (1, .int (iI x)), (2, .int (iI 0))] [.ref (pl 13)] _ _ _ _
      refine pm_e_sim pm_a50_29 rfl ?_
      refine pm_e_top (y := iI 0) (by decide +kernel) ?_
      show pm_E _ _ _ 30 [(0, .ref (pl 13)), (1, .int (iI x)), (2, .int (iI 0))] [.int (iI 0), .ref (pl 13)] _ _ _ _
      refine pm_e_sim pm_a50_30 rfl ?_
      show pm_E _ _ _ 31 [(0, .ref (pl 13)), (1, .int (iI x)), (2, .int (iI 0))] [.int (iI 0), .int (iI 0), .ref (pl 13)] _ _ _ _
      refine pm_e_sim pm_a50_31 rfl ?_
      refine pm_e_hav (fun z_25 bz_25 => ?_)
      obtain ⟨_, _⟩ := bz_25
      show pm_E _ _ _ 32 [(0, .ref (pl 13)), (1, .int (iI x)), (2, .int (iI 0))] [.int (iI z_25), .ref (pl 13)] _ _ _ _
      refine pm_i_callv (k := (pl 13)) (T2 := pm_mm53) pm_a50_32 rfl rfl rfl (cg_13 hW) ⟨Nat.le_of_ble_eq_true rfl, Nat.le_of_ble_eq_true rfl, rfl, by decide +kernel⟩ ?_
      show pm_E none _ _ 0 [(0, .ref (pl 13)), (1, .int (iI z_25))] [] _ _ _ _
      have f_26 := f_1
      refine C_e_goInto hW f_26.2.2 ⟨by omega, by omega⟩ (fun s_26 a_26 g_26 => ?_)
      have e_26 := g_26.2.2
      obtain ⟨⟨_, _⟩, ⟨_, _⟩, ⟨_, _⟩, ⟨_, _⟩, ⟨_, _⟩⟩ := e_26
      show pm_E _ _ _ 35 [(0, .ref (pl 13)), (1, .int (iI x)), (2, .int (iI 0))] [] _ _ _ _
      refine pm_e_goto pm_a50_35 rfl ?_
      show pm_E _ _ _ 92 [(0, .ref (pl 13)), (1, .int (iI x)), (2, .int (iI 0))] [] _ _ _ _
      refine pm_e_ret pm_a50_92 rfl rfl rfl rfl rfl rfl rfl rfl ?_
      exact k _ _ (teF_t f_26 g_26)
set_option maxHeartbeats 4000000 in
set_option maxRecDepth 100000 in
theorem C_e_byte_l {d n : Nat} {kd pl : Nat → Nat} {c : Nat → cdt} {M : List va_E} {Q : Option Value → List va_E → Nat → Nat → Prop} {j : Nat} {y : cdt} {x : Int} (hW : wf n kd pl) (hj : j < 38 ∧ al n kd pl (60 + 2 * j)) (hcj : c j = y) (hok : okx (rm j) y) (hx : in32 x) : ∀ (f : Nat) (i : Int) (s : Nat → Int) (a : Nat → Int → Int), 0 ≤ i → i ≤ y.1 → teO s → (∀ s' a' r, teF s a s' a' → Q (some (.int (iI r))) (ch n kd pl s' a' c M) 0 0) → y.1 - i < (f : Int) → pm_E none (d + 6) pm_mm49 27 [(0, .ref (pl 13)), (1, .ref (pl (60 + 2 * j))), (2, .int (iI x)), (3, .int (iI i))] [] (ch n kd pl s a c M) 0 0 Q := by
  intro f
  induction f with
  | zero =>
    intro i s a hi0 hi1 ho k hf
    exfalso; omega
  | succ f ih =>
    intro i s a hi0 hi1 ho k hf
    obtain ⟨⟨_, _⟩, ⟨_, _⟩, ⟨_, _⟩, ⟨_, _⟩, ⟨_, _⟩⟩ := id ho
    have rbj := rm_b j
    obtain ⟨_, _, _, _⟩ := id hok
    obtain ⟨_, _⟩ := id hx
    have hyj : (c j).1 = y.1 := by rw [hcj]
    refine pm_e_sim pm_a49_27 rfl ?_
    show pm_E _ _ _ 28 [(0, .ref (pl 13)), (1, .ref (pl (60 + 2 * j))), (2, .int (iI x)), (3, .int (iI i))] [.int (iI i)] _ _ _ _
    refine pm_e_sim pm_a49_28 rfl ?_
    show pm_E _ _ _ 29 [(0, .ref (pl 13)), (1, .ref (pl (60 + 2 * j))), (2, .int (iI x)), (3, .int (iI i))] [.ref (pl (60 + 2 * j)), .int (iI i)] _ _ _ _
    refine pm_i_get pm_a49_29 rfl (cg_o hj) rfl ?_
    show pm_E _ _ _ 32 [(0, .ref (pl 13)), (1, .ref (pl (60 + 2 * j))), (2, .int (iI x)), (3, .int (iI i))] [.int (iI ((c j).1)), .int (iI i)] _ _ _ _
    refine pm_c_ge (t := 58) pm_a49_32 rfl ⟨by omega, by omega⟩ ⟨by omega, by omega⟩ (fun h_1 => ?_) (fun h_1 => ?_)
    · skip
      show pm_E _ _ _ 58 [(0, .ref (pl 13)), (1, .ref (pl (60 + 2 * j))), (2, .int (iI x)), (3, .int (iI i))] [] _ _ _ _
      refine pm_e_sim pm_a49_58 rfl ?_
      show pm_E _ _ _ 59 [(0, .ref (pl 13)), (1, .ref (pl (60 + 2 * j))), (2, .int (iI x)), (3, .int (iI i))] [.ref (pl 13)] _ _ _ _
      refine pm_i_get pm_a49_59 rfl (cg_13 hW) rfl ?_
      show pm_E _ _ _ 62 [(0, .ref (pl 13)), (1, .ref (pl (60 + 2 * j))), (2, .int (iI x)), (3, .int (iI i))] [.int (iI (s 16))] _ _ _ _
      refine pm_e_sim pm_a49_62 rfl ?_
      show pm_E _ _ _ 63 [(0, .ref (pl 13)), (1, .ref (pl (60 + 2 * j))), (2, .int (iI x)), (3, .int (iI i))] [.ref (pl 13), .int (iI (s 16))] _ _ _ _
      refine pm_i_get pm_a49_63 rfl (cg_13 hW) rfl ?_
      show pm_E _ _ _ 66 [(0, .ref (pl 13)), (1, .ref (pl (60 + 2 * j))), (2, .int (iI x)), (3, .int (iI i))] [.int (iI (s 17)), .int (iI (s 16))] _ _ _ _
      refine pm_c_ne (t := 81) pm_a49_66 rfl ⟨by omega, by omega⟩ ⟨by omega, by omega⟩ (fun h_2 => ?_) (fun h_2 => ?_)
      · skip
        show pm_E _ _ _ 81 [(0, .ref (pl 13)), (1, .ref (pl (60 + 2 * j))), (2, .int (iI x)), (3, .int (iI i))] [] _ _ _ _
        refine pm_e_sim pm_a49_81 rfl ?_
        show pm_E _ _ _ 82 [(0, .ref (pl 13)), (1, .ref (pl (60 + 2 * j))), (2, .int (iI x)), (3, .int (iI i))] [.ref (pl 13)] _ _ _ _
        refine pm_i_get pm_a49_82 rfl (cg_13 hW) rfl ?_
        show pm_E _ _ _ 85 [(0, .ref (pl 13)), (1, .ref (pl (60 + 2 * j))), (2, .int (iI x)), (3, .int (iI i))] [.int (iI (s 18))] _ _ _ _
        refine pm_e_ret pm_a49_85 rfl rfl rfl rfl rfl rfl rfl rfl ?_
        exact k _ _ _ (teF_r (a := a) ho)
      · skip
        show pm_E _ _ _ 69 [(0, .ref (pl 13)), (1, .ref (pl (60 + 2 * j))), (2, .int (iI x)), (3, .int (iI i))] [] _ _ _ _
        refine pm_e_sim pm_a49_69 rfl ?_
        show pm_E _ _ _ 70 [(0, .ref (pl 13)), (1, .ref (pl (60 + 2 * j))), (2, .int (iI x)), (3, .int (iI i))] [.ref (pl 13)] _ _ _ _
        refine pm_i_get pm_a49_70 rfl (cg_13 hW) rfl ?_
        show pm_E _ _ _ 73 [(0, .ref (pl 13)), (1, .ref (pl (60 + 2 * j))), (2, .int (iI x)), (3, .int (iI i))] [.int (iI (s 18))] _ _ _ _
        refine pm_e_sim pm_a49_73 rfl ?_
        refine pm_e_top (y := iI (-1)) (by decide +kernel) ?_
        show pm_E _ _ _ 74 [(0, .ref (pl 13)), (1, .ref (pl (60 + 2 * j))), (2, .int (iI x)), (3, .int (iI i))] [.int (iI (-1)), .int (iI (s 18))] _ _ _ _
        refine pm_c_ne (t := 81) pm_a49_74 rfl ⟨by omega, by omega⟩ ⟨by omega, by omega⟩ (fun h_3 => ?_) (fun h_3 => ?_)
        · skip
          show pm_E _ _ _ 81 [(0, .ref (pl 13)), (1, .ref (pl (60 + 2 * j))), (2, .int (iI x)), (3, .int (iI i))] [] _ _ _ _
          refine pm_e_sim pm_a49_81 rfl ?_
          show pm_E _ _ _ 82 [(0, .ref (pl 13)), (1, .ref (pl (60 + 2 * j))), (2, .int (iI x)), (3, .int (iI i))] [.ref (pl 13)] _ _ _ _
          refine pm_i_get pm_a49_82 rfl (cg_13 hW) rfl ?_
          show pm_E _ _ _ 85 [(0, .ref (pl 13)), (1, .ref (pl (60 + 2 * j))), (2, .int (iI x)), (3, .int (iI i))] [.int (iI (s 18))] _ _ _ _
          refine pm_e_ret pm_a49_85 rfl rfl rfl rfl rfl rfl rfl rfl ?_
          exact k _ _ _ (teF_r (a := a) ho)
        · skip
          show pm_E _ _ _ 77 [(0, .ref (pl 13)), (1, .ref (pl (60 + 2 * j))), (2, .int (iI x)), (3, .int (iI i))] [] _ _ _ _
          refine pm_e_sim pm_a49_77 rfl ?_
          refine pm_e_top (y := iI 0) (by decide +kernel) ?_
          show pm_E _ _ _ 78 [(0, .ref (pl 13)), (1, .ref (pl (60 + 2 * j))), (2, .int (iI x)), (3, .int (iI i))] [.int (iI 0)] _ _ _ _
          refine pm_e_goto pm_a49_78 rfl ?_
          show pm_E _ _ _ 85 [(0, .ref (pl 13)), (1, .ref (pl (60 + 2 * j))), (2, .int (iI x)), (3, .int (iI i))] [.int (iI 0)] _ _ _ _
          refine pm_e_ret pm_a49_85 rfl rfl rfl rfl rfl rfl rfl rfl ?_
          exact k _ _ _ (teF_r (a := a) ho)
    · skip
      show pm_E _ _ _ 35 [(0, .ref (pl 13)), (1, .ref (pl (60 + 2 * j))), (2, .int (iI x)), (3, .int (iI i))] [] _ _ _ _
      refine pm_e_sim pm_a49_35 rfl ?_
      show pm_E _ _ _ 36 [(0, .ref (pl 13)), (1, .ref (pl (60 + 2 * j))), (2, .int (iI x)), (3, .int (iI i))] [.ref (pl 13)] _ _ _ _
      refine pm_i_get pm_a49_36 rfl (cg_13 hW) rfl ?_
      show pm_E _ _ _ 39 [(0, .ref (pl 13)), (1, .ref (pl (60 + 2 * j))), (2, .int (iI x)), (3, .int (iI i))] [.int (iI (s 18))] _ _ _ _
      refine pm_e_sim pm_a49_39 rfl ?_
      refine pm_e_top (y := iI (-1)) (by decide +kernel) ?_
      show pm_E _ _ _ 40 [(0, .ref (pl 13)), (1, .ref (pl (60 + 2 * j))), (2, .int (iI x)), (3, .int (iI i))] [.int (iI (-1)), .int (iI (s 18))] _ _ _ _
      refine pm_c_ne (t := 58) pm_a49_40 rfl ⟨by omega, by omega⟩ ⟨by omega, by omega⟩ (fun h_4 => ?_) (fun h_4 => ?_)
      · skip
        show pm_E _ _ _ 58 [(0, .ref (pl 13)), (1, .ref (pl (60 + 2 * j))), (2, .int (iI x)), (3, .int (iI i))] [] _ _ _ _
        refine pm_e_sim pm_a49_58 rfl ?_
        show pm_E _ _ _ 59 [(0, .ref (pl 13)), (1, .ref (pl (60 + 2 * j))), (2, .int (iI x)), (3, .int (iI i))] [.ref (pl 13)] _ _ _ _
        refine pm_i_get pm_a49_59 rfl (cg_13 hW) rfl ?_
        show pm_E _ _ _ 62 [(0, .ref (pl 13)), (1, .ref (pl (60 + 2 * j))), (2, .int (iI x)), (3, .int (iI i))] [.int (iI (s 16))] _ _ _ _
        refine pm_e_sim pm_a49_62 rfl ?_
        show pm_E _ _ _ 63 [(0, .ref (pl 13)), (1, .ref (pl (60 + 2 * j))), (2, .int (iI x)), (3, .int (iI i))] [.ref (pl 13), .int (iI (s 16))] _ _ _ _
        refine pm_i_get pm_a49_63 rfl (cg_13 hW) rfl ?_
        show pm_E _ _ _ 66 [(0, .ref (pl 13)), (1, .ref (pl (60 + 2 * j))), (2, .int (iI x)), (3, .int (iI i))] [.int (iI (s 17)), .int (iI (s 16))] _ _ _ _
        refine pm_c_ne (t := 81) pm_a49_66 rfl ⟨by omega, by omega⟩ ⟨by omega, by omega⟩ (fun h_5 => ?_) (fun h_5 => ?_)
        · skip
          show pm_E _ _ _ 81 [(0, .ref (pl 13)), (1, .ref (pl (60 + 2 * j))), (2, .int (iI x)), (3, .int (iI i))] [] _ _ _ _
          refine pm_e_sim pm_a49_81 rfl ?_
          show pm_E _ _ _ 82 [(0, .ref (pl 13)), (1, .ref (pl (60 + 2 * j))), (2, .int (iI x)), (3, .int (iI i))] [.ref (pl 13)] _ _ _ _
          refine pm_i_get pm_a49_82 rfl (cg_13 hW) rfl ?_
          show pm_E _ _ _ 85 [(0, .ref (pl 13)), (1, .ref (pl (60 + 2 * j))), (2, .int (iI x)), (3, .int (iI i))] [.int (iI (s 18))] _ _ _ _
          refine pm_e_ret pm_a49_85 rfl rfl rfl rfl rfl rfl rfl rfl ?_
          exact k _ _ _ (teF_r (a := a) ho)
        · skip
          show pm_E _ _ _ 69 [(0, .ref (pl 13)), (1, .ref (pl (60 + 2 * j))), (2, .int (iI x)), (3, .int (iI i))] [] _ _ _ _
          refine pm_e_sim pm_a49_69 rfl ?_
          show pm_E _ _ _ 70 [(0, .ref (pl 13)), (1, .ref (pl (60 + 2 * j))), (2, .int (iI x)), (3, .int (iI i))] [.ref (pl 13)] _ _ _ _
          refine pm_i_get pm_a49_70 rfl (cg_13 hW) rfl ?_
          show pm_E _ _ _ 73 [(0, .ref (pl 13)), (1, .ref (pl (60 + 2 * j))), (2, .int (iI x)), (3, .int (iI i))] [.int (iI (s 18))] _ _ _ _
          refine pm_e_sim pm_a49_73 rfl ?_
          refine pm_e_top (y := iI (-1)) (by decide +kernel) ?_
          show pm_E _ _ _ 74 [(0, .ref (pl 13)), (1, .ref (pl (60 + 2 * j))), (2, .int (iI x)), (3, .int (iI i))] [.int (iI (-1)), .int (iI (s 18))] _ _ _ _
          refine pm_c_ne (t := 81) pm_a49_74 rfl ⟨by omega, by omega⟩ ⟨by omega, by omega⟩ (fun h_6 => ?_) (fun h_6 => ?_)
          · skip
            show pm_E _ _ _ 81 [(0, .ref (pl 13)), (1, .ref (pl (60 + 2 * j))), (2, .int (iI x)), (3, .int (iI i))] [] _ _ _ _
            refine pm_e_sim pm_a49_81 rfl ?_
            show pm_E _ _ _ 82 [(0, .ref (pl 13)), (1, .ref (pl (60 + 2 * j))), (2, .int (iI x)), (3, .int (iI i))] [.ref (pl 13)] _ _ _ _
            refine pm_i_get pm_a49_82 rfl (cg_13 hW) rfl ?_
            show pm_E _ _ _ 85 [(0, .ref (pl 13)), (1, .ref (pl (60 + 2 * j))), (2, .int (iI x)), (3, .int (iI i))] [.int (iI (s 18))] _ _ _ _
            refine pm_e_ret pm_a49_85 rfl rfl rfl rfl rfl rfl rfl rfl ?_
            exact k _ _ _ (teF_r (a := a) ho)
          · skip
            show pm_E _ _ _ 77 [(0, .ref (pl 13)), (1, .ref (pl (60 + 2 * j))), (2, .int (iI x)), (3, .int (iI i))] [] _ _ _ _
            refine pm_e_sim pm_a49_77 rfl ?_
            refine pm_e_top (y := iI 0) (by decide +kernel) ?_
            show pm_E _ _ _ 78 [(0, .ref (pl 13)), (1, .ref (pl (60 + 2 * j))), (2, .int (iI x)), (3, .int (iI i))] [.int (iI 0)] _ _ _ _
            refine pm_e_goto pm_a49_78 rfl ?_
            show pm_E _ _ _ 85 [(0, .ref (pl 13)), (1, .ref (pl (60 + 2 * j))), (2, .int (iI x)), (3, .int (iI i))] [.int (iI 0)] _ _ _ _
            refine pm_e_ret pm_a49_85 rfl rfl rfl rfl rfl rfl rfl rfl ?_
            exact k _ _ _ (teF_r (a := a) ho)
      · skip
        show pm_E _ _ _ 43 [(0, .ref (pl 13)), (1, .ref (pl (60 + 2 * j))), (2, .int (iI x)), (3, .int (iI i))] [] _ _ _ _
        refine pm_e_sim pm_a49_43 rfl ?_
        show pm_E _ _ _ 44 [(0, .ref (pl 13)), (1, .ref (pl (60 + 2 * j))), (2, .int (iI x)), (3, .int (iI i))] [.ref (pl 13)] _ _ _ _
        refine pm_e_sim pm_a49_44 rfl ?_
        show pm_E _ _ _ 45 [(0, .ref (pl 13)), (1, .ref (pl (60 + 2 * j))), (2, .int (iI x)), (3, .int (iI i))] [.ref (pl (60 + 2 * j)), .ref (pl 13)] _ _ _ _
        refine pm_e_sim pm_a49_45 rfl ?_
        show pm_E _ _ _ 46 [(0, .ref (pl 13)), (1, .ref (pl (60 + 2 * j))), (2, .int (iI x)), (3, .int (iI i))] [.int (iI i), .ref (pl (60 + 2 * j)), .ref (pl 13)] _ _ _ _
        refine pm_i_callv (k := (pl (60 + 2 * j))) (T2 := pm_mm47) pm_a49_46 rfl rfl rfl (cg_o hj) ⟨Nat.le_of_ble_eq_true rfl, Nat.le_of_ble_eq_true rfl, rfl, by decide +kernel⟩ ?_
        show pm_E none _ _ 0 [(0, .ref (pl (60 + 2 * j))), (1, .int (iI i))] [] _ _ _ _
        refine C_at hW hj hcj hok.1 hok.2.1 ⟨by omega, by omega⟩ ?_
        obtain ⟨_, _⟩ := atI_in hok (i)
        show pm_E _ _ _ 49 [(0, .ref (pl 13)), (1, .ref (pl (60 + 2 * j))), (2, .int (iI x)), (3, .int (iI i))] [.int (iI (atI y i)), .ref (pl 13)] _ _ _ _
        refine pm_i_callv (k := (pl 13)) (T2 := pm_mm50) pm_a49_49 rfl rfl rfl (cg_13 hW) ⟨Nat.le_of_ble_eq_true rfl, Nat.le_of_ble_eq_true rfl, rfl, by decide +kernel⟩ ?_
        show pm_E none _ _ 0 [(0, .ref (pl 13)), (1, .int (iI (atI y i)))] [] _ _ _ _
        have f_8 := (teF_r (a := a) ho)
        refine C_e_tellNode hW f_8.2.2 ⟨by omega, by omega⟩ (fun s_8 a_8 g_8 => ?_)
        have e_8 := g_8.2.2
        obtain ⟨⟨_, _⟩, ⟨_, _⟩, ⟨_, _⟩, ⟨_, _⟩, ⟨_, _⟩⟩ := e_8
        show pm_E _ _ _ 52 [(0, .ref (pl 13)), (1, .ref (pl (60 + 2 * j))), (2, .int (iI x)), (3, .int (iI i))] [] _ _ _ _
        refine pm_e_inc (y := iI (i + 1)) pm_a49_52 rfl (iI_add _ _) (by decide +kernel) rfl ?_
        show pm_E _ _ _ 55 [(0, .ref (pl 13)), (1, .ref (pl (60 + 2 * j))), (2, .int (iI x)), (3, .int (iI (i + 1)))] [] _ _ _ _
        refine pm_e_goto pm_a49_55 rfl ?_
        show pm_E _ _ _ 27 [(0, .ref (pl 13)), (1, .ref (pl (60 + 2 * j))), (2, .int (iI x)), (3, .int (iI (i + 1)))] [] _ _ _ _
        have f_9 := (teF_t f_8 g_8)
        exact ih (i + 1) _ _ (by omega) (by omega) f_9.2.2 (fun s2 a2 r f2 => k s2 a2 r (teF_t f_9 f2)) (by omega)
set_option maxHeartbeats 4000000 in
set_option maxRecDepth 100000 in
theorem C_e_byteOf {d n : Nat} {kd pl : Nat → Nat} {s : Nat → Int} {a : Nat → Int → Int} {c : Nat → cdt} {M : List va_E} {Q : Option Value → List va_E → Nat → Nat → Prop} {j : Nat} {y : cdt} {x : Int} (hW : wf n kd pl) (hj : j < 38 ∧ al n kd pl (60 + 2 * j)) (hcj : c j = y) (hok : okx (rm j) y) (hx : in32 x) (ho : teO s) (k : ∀ s' a' r, teF s a s' a' → Q (some (.int (iI r))) (ch n kd pl s' a' c M) 0 0) : pm_E none (d + 6) pm_mm49 0 [(0, .ref (pl 13)), (1, .ref (pl (60 + 2 * j))), (2, .int (iI x))] [] (ch n kd pl s a c M) 0 0 Q := by
  obtain ⟨⟨_, _⟩, ⟨_, _⟩, ⟨_, _⟩, ⟨_, _⟩, ⟨_, _⟩⟩ := id ho
  have rbj := rm_b j
  obtain ⟨_, _, _, _⟩ := id hok
  obtain ⟨_, _⟩ := id hx
  have hyj : (c j).1 = y.1 := by rw [hcj]
  refine pm_e_sim pm_a49_0 rfl ?_
  show pm_E _ _ _ 1 [(0, .ref (pl 13)), (1, .ref (pl (60 + 2 * j))), (2, .int (iI x))] [.ref (pl 13)] _ _ _ _
  refine pm_e_sim pm_a49_1 rfl ?_
  refine pm_e_top (y := iI 0) (by decide +kernel) ?_
  show pm_E _ _ _ 2 [(0, .ref (pl 13)), (1, .ref (pl (60 + 2 * j))), (2, .int (iI x))] [.int (iI 0), .ref (pl 13)] _ _ _ _
  refine pm_i_put pm_a49_2 rfl (cg_13 hW) rfl (Nat.le_of_ble_eq_true rfl) (Or.inl rfl) (cw_14 hW 0) ?_
  show pm_E _ _ _ 5 [(0, .ref (pl 13)), (1, .ref (pl (60 + 2 * j))), (2, .int (iI x))] [] _ _ _ _
  refine pm_e_sim pm_a49_5 rfl ?_
  show pm_E _ _ _ 6 [(0, .ref (pl 13)), (1, .ref (pl (60 + 2 * j))), (2, .int (iI x))] [.ref (pl 13)] _ _ _ _
  refine pm_e_sim pm_a49_6 rfl ?_
  refine pm_e_top (y := iI 0) (by decide +kernel) ?_
  show pm_E _ _ _ 7 [(0, .ref (pl 13)), (1, .ref (pl (60 + 2 * j))), (2, .int (iI x))] [.int (iI 0), .ref (pl 13)] _ _ _ _
  refine pm_i_put pm_a49_7 rfl (cg_13 hW) rfl (Nat.le_of_ble_eq_true rfl) (Or.inl rfl) (cw_15 hW 0) ?_
  show pm_E _ _ _ 10 [(0, .ref (pl 13)), (1, .ref (pl (60 + 2 * j))), (2, .int (iI x))] [] _ _ _ _
  refine pm_e_sim pm_a49_10 rfl ?_
  show pm_E _ _ _ 11 [(0, .ref (pl 13)), (1, .ref (pl (60 + 2 * j))), (2, .int (iI x))] [.ref (pl 13)] _ _ _ _
  refine pm_e_sim pm_a49_11 rfl ?_
  show pm_E _ _ _ 12 [(0, .ref (pl 13)), (1, .ref (pl (60 + 2 * j))), (2, .int (iI x))] [.int (iI x), .ref (pl 13)] _ _ _ _
  refine pm_i_put pm_a49_12 rfl (cg_13 hW) rfl (Nat.le_of_ble_eq_true rfl) (Or.inl rfl) (cw_16 hW x) ?_
  show pm_E _ _ _ 15 [(0, .ref (pl 13)), (1, .ref (pl (60 + 2 * j))), (2, .int (iI x))] [] _ _ _ _
  refine pm_e_sim pm_a49_15 rfl ?_
  show pm_E _ _ _ 16 [(0, .ref (pl 13)), (1, .ref (pl (60 + 2 * j))), (2, .int (iI x))] [.ref (pl 13)] _ _ _ _
  refine pm_e_sim pm_a49_16 rfl ?_
  refine pm_e_top (y := iI 0) (by decide +kernel) ?_
  show pm_E _ _ _ 17 [(0, .ref (pl 13)), (1, .ref (pl (60 + 2 * j))), (2, .int (iI x))] [.int (iI 0), .ref (pl 13)] _ _ _ _
  refine pm_i_put pm_a49_17 rfl (cg_13 hW) rfl (Nat.le_of_ble_eq_true rfl) (Or.inl rfl) (cw_17 hW 0) ?_
  show pm_E _ _ _ 20 [(0, .ref (pl 13)), (1, .ref (pl (60 + 2 * j))), (2, .int (iI x))] [] _ _ _ _
  refine pm_e_sim pm_a49_20 rfl ?_
  show pm_E _ _ _ 21 [(0, .ref (pl 13)), (1, .ref (pl (60 + 2 * j))), (2, .int (iI x))] [.ref (pl 13)] _ _ _ _
  refine pm_e_sim pm_a49_21 rfl ?_
  refine pm_e_top (y := iI (-1)) (by decide +kernel) ?_
  show pm_E _ _ _ 22 [(0, .ref (pl 13)), (1, .ref (pl (60 + 2 * j))), (2, .int (iI x))] [.int (iI (-1)), .ref (pl 13)] _ _ _ _
  refine pm_i_put pm_a49_22 rfl (cg_13 hW) rfl (Nat.le_of_ble_eq_true rfl) (Or.inl rfl) (cw_18 hW (-1)) ?_
  show pm_E _ _ _ 25 [(0, .ref (pl 13)), (1, .ref (pl (60 + 2 * j))), (2, .int (iI x))] [] _ _ _ _
  refine pm_e_sim pm_a49_25 rfl ?_
  refine pm_e_top (y := iI 0) (by decide +kernel) ?_
  show pm_E _ _ _ 26 [(0, .ref (pl 13)), (1, .ref (pl (60 + 2 * j))), (2, .int (iI x))] [.int (iI 0)] _ _ _ _
  refine pm_e_sim pm_a49_26 rfl ?_
  show pm_E _ _ _ 27 [(0, .ref (pl 13)), (1, .ref (pl (60 + 2 * j))), (2, .int (iI x)), (3, .int (iI 0))] [] _ _ _ _
  have f_1 := (teF_p18 (v := (-1)) (teF_p17 (v := 0) (teF_p16 (v := x) (teF_p15 (v := 0) (teF_p14 (v := 0) (teF_r (a := a) ho) ⟨by omega, by omega⟩) ⟨by omega, by omega⟩) ⟨by omega, by omega⟩) ⟨by omega, by omega⟩) ⟨by omega, by omega⟩)
  exact C_e_byte_l hW hj hcj hok hx 503 0 _ _ (by omega) (by omega) f_1.2.2 (fun s2 a2 r f2 => k s2 a2 r (teF_t f_1 f2)) (by omega)
