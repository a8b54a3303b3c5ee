/-! THE CLASS: Reader: tokens, names -/
theorem rdl_s {g : Int → Int} {lo hi m z w n b i v : Int} {f : Nat} (h : i < n) (h1 : lo ≤ g i) (h2 : g i ≤ hi) : rdl g lo hi m z w n b (f + 1) i v = rdl g lo hi m z w n b f (i + 1) (if i - b < w then ((m * v) + g i) - z else v) := by rw [rdl, if_pos ⟨h, h1, h2⟩]
theorem rdl_fu {g : Int → Int} {lo hi m z w n b : Int} : ∀ (f : Nat) (i v : Int), i ≤ n → n ≤ i + f → rdl g lo hi m z w n b (f + 1) i v = rdl g lo hi m z w n b f i v
  | 0, i, v, h, h1 => by rw [rdl_n (f := 0 + 1) (Or.inl (by omega)), rdl_n (Or.inl (by omega))]
  | f + 1, i, v, h, h1 => by
    by_cases c : i < n ∧ lo ≤ g i ∧ g i ≤ hi
    · rw [rdl_s c.1 c.2.1 c.2.2, rdl_s c.1 c.2.1 c.2.2]
      exact rdl_fu f (i + 1) _ (by omega) (by omega)
    · rw [rdl_n (by omega), rdl_n (by omega)]
theorem skp_fu {g : Int → Int} {n : Int} : ∀ (f : Nat) (i : Int), i ≤ n → n ≤ i + f → skp g n (f + 1) i = skp g n f i
  | 0, i, h, h1 => by rw [skp_n (f := 0 + 1) (Or.inl (by omega)), skp_n (Or.inl (by omega))]
  | f + 1, i, h, h1 => by
    by_cases c : i < n ∧ g i = 32
    · rw [skp_y c.1 c.2, skp_y c.1 c.2]
      exact skp_fu f (i + 1) (by omega) (by omega)
    · have c' : n ≤ i ∨ g i ≠ 32 := by
        by_cases h9 : i < n
        · exact Or.inr (fun z => c ⟨h9, z⟩)
        · exact Or.inl (by omega)
      rw [skp_n c', skp_n c']
section
variable {b : Int → Int} {n i P : Int}
theorem tok_0 (hP : skp b n 600 i = P) (h : n ≤ P) : tok b n i = (0, 0, P, P) := by unfold tok; rw [hP, if_pos h]
theorem tok_1 (hP : skp b n 600 i = P) (h : P < n) (h1 : 97 ≤ b P) (h2 : b P ≤ 122) (h3 : nEnd b n P - P ≤ 8) : tok b n i = (1, nv b n P, P, nEnd b n P) := by
  unfold tok; rw [hP, if_neg (by omega), if_pos ⟨h1, h2⟩]; exact if_pos h3
theorem tok_1f (hP : skp b n 600 i = P) (h : P < n) (h1 : 97 ≤ b P) (h2 : b P ≤ 122) (h3 : 8 < nEnd b n P - P) : tok b n i = (-1, 0, P, P) := by
  unfold tok; rw [hP, if_neg (by omega), if_pos ⟨h1, h2⟩]; exact if_neg (by unfold nEnd at h3; omega)
theorem tok_2 (hP : skp b n 600 i = P) (h : P < n) (h1 : 48 ≤ b P) (h2 : b P ≤ 57) (h3 : (rdl b 48 57 10 48 2 n P 600 P 0).1 - P ≤ 2) (h4 : (rdl b 48 57 10 48 2 n P 600 P 0).2 ≤ 20) : tok b n i = (2, (rdl b 48 57 10 48 2 n P 600 P 0).2, P, (rdl b 48 57 10 48 2 n P 600 P 0).1) := by
  unfold tok; rw [hP, if_neg (by omega), if_neg (by omega), if_pos ⟨h1, h2⟩, if_pos ⟨h3, h4⟩]
theorem tok_2f (hP : skp b n 600 i = P) (h : P < n) (h1 : 48 ≤ b P) (h2 : b P ≤ 57) (h3 : 2 < (rdl b 48 57 10 48 2 n P 600 P 0).1 - P ∨ 20 < (rdl b 48 57 10 48 2 n P 600 P 0).2) : tok b n i = (-1, 0, P, P) := by
  unfold tok; rw [hP, if_neg (by omega), if_neg (by omega), if_pos ⟨h1, h2⟩, if_neg (by omega)]
theorem tok_3 (hP : skp b n 600 i = P) (h : P < n) (h1 : b P < 97 ∨ 122 < b P) (h2 : b P < 48 ∨ 57 < b P) (h3 : lof (b P) ≠ -4) : tok b n i = (3, lof (b P), P, P + 1) := by
  unfold tok; rw [hP, if_neg (by omega), if_neg (by omega), if_neg (by omega), if_pos h3]
theorem tok_4 (hP : skp b n 600 i = P) (h : P < n) (h1 : b P < 97 ∨ 122 < b P) (h2 : b P < 48 ∨ 57 < b P) (h3 : lof (b P) = -4) (h4 : b P = 40 ∨ b P = 41 ∨ b P = 92 ∨ b P = 46) : tok b n i = (4, b P, P, P + 1) := by
  unfold tok; rw [hP, if_neg (by omega), if_neg (by omega), if_neg (by omega), if_neg (by omega), if_pos h4]
theorem tok_5 (hP : skp b n 600 i = P) (h : P < n) (h1 : b P < 97 ∨ 122 < b P) (h2 : b P < 48 ∨ 57 < b P) (h3 : lof (b P) = -4) (h4 : ¬ (b P = 40 ∨ b P = 41 ∨ b P = 92 ∨ b P = 46)) : tok b n i = (-1, 0, P, P) := by
  unfold tok; rw [hP, if_neg (by omega), if_neg (by omega), if_neg (by omega), if_neg (by omega), if_neg h4]
theorem fig_v (h : P < n) (h1 : 48 ≤ b P) (h2 : b P ≤ 57) (h3 : (rdl b 48 57 10 48 2 n P 600 P 0).1 - P ≤ 2) : ((rdl b 48 57 10 48 2 n P 600 P 0).1 - P = 1 → (rdl b 48 57 10 48 2 n P 600 P 0).2 = b P - 48) ∧ ((rdl b 48 57 10 48 2 n P 600 P 0).1 - P ≠ 1 → (rdl b 48 57 10 48 2 n P 600 P 0).2 = (b P - 48) * 10 + b (P + 1) - 48 ∧ P + 1 < n) := by
  rw [show (600 : Nat) = 599 + 1 from rfl, rdl_y h h1 h2 (by omega)] at h3 ⊢
  by_cases c : P + 1 < n ∧ 48 ≤ b (P + 1) ∧ b (P + 1) ≤ 57
  · rw [show (599 : Nat) = 598 + 1 from rfl, rdl_y c.1 c.2.1 c.2.2 (by omega)] at h3 ⊢
    by_cases c2 : P + 1 + 1 < n ∧ 48 ≤ b (P + 1 + 1) ∧ b (P + 1 + 1) ≤ 57
    · exfalso
      rw [show (598 : Nat) = 597 + 1 from rfl, rdl_z c2.1 c2.2.1 c2.2.2 (by omega)] at h3
      have := (rdl_le (g := b) (lo := 48) (hi := 57) (m := 10) (z := 48) (w := 2) (n := n) (b := P) 597 (P + 1 + 1 + 1) (10 * (10 * 0 + b P - 48) + b (P + 1) - 48) (by omega)).1
      omega
    · rw [rdl_n (by omega)]
      refine ⟨fun z => ?_, fun z => ⟨?_, c.1⟩⟩
      · exfalso; have z : P + 1 + 1 - P = 1 := z; omega
      · show 10 * (10 * 0 + b P - 48) + b (P + 1) - 48 = _; omega
  · rw [rdl_n (by omega)]
    refine ⟨fun z => ?_, fun z => ?_⟩
    · show 10 * 0 + b P - 48 = _; omega
    · exfalso; have z : P + 1 - P ≠ 1 := z; omega
end
theorem ixS_lof (c : Int) : -1 ≤ ixS c ∧ ixS c ≤ 4 ∧ (ixS c < 0 → lof c = -4) ∧ (0 ≤ ixS c → lof c ≠ -4 ∧ lof c = ixS c + 2) := by
  unfold ixS lof
  by_cases h1 : c = 83
  · rw [if_pos h1, if_pos h1]; omega
  by_cases h2 : c = 75
  · rw [if_neg h1, if_neg h1, if_pos h2, if_pos h2]; omega
  by_cases h3 : c = 73
  · rw [if_neg h1, if_neg h1, if_neg h2, if_neg h2, if_pos h3, if_pos h3]; omega
  by_cases h4 : c = 70
  · rw [if_neg h1, if_neg h1, if_neg h2, if_neg h2, if_neg h3, if_neg h3, if_pos h4, if_pos h4]; omega
  by_cases h5 : c = 88
  · rw [if_neg h1, if_neg h1, if_neg h2, if_neg h2, if_neg h3, if_neg h3, if_neg h4, if_neg h4, if_pos h5, if_pos h5]; omega
  rw [if_neg h1, if_neg h1, if_neg h2, if_neg h2, if_neg h3, if_neg h3, if_neg h4, if_neg h4, if_neg h5, if_neg h5]; omega
theorem i2c_f : ∀ c : Fin 256, ((Int32.ofInt (c.val : Int)).toUInt32 % 65536).toInt32 = Int32.ofInt (c.val : Int) := by decide +kernel
theorem i2c_b {c : Int} (h0 : 0 ≤ c) (h1 : c ≤ 255) : ((iI c).toUInt32 % 65536).toInt32 = iI c := by
  have := i2c_f ⟨c.toNat, by omega⟩
  rw [show ((c.toNat : Nat) : Int) = c by omega] at this
  exact this
def tkC (b : Int → Int) (n i q : Int) (s' : Nat → Int) : Prop := ((tok b n i).1 = -1 ∧ s' 12 = 1 ∧ s' 13 = (tok b n i).2.2.1) ∨ (0 ≤ (tok b n i).1 ∧ (s' 12 = 0 ∧ s' 13 = q) ∧ s' 9 = (tok b n i).1 ∧ s' 10 = (tok b n i).2.2.1 ∧ s' 11 = (tok b n i).2.2.2)
theorem tkC_f {b : Int → Int} {n i q P : Int} {s' : Nat → Int} (h : tok b n i = (-1, 0, P, P)) (h1 : s' 12 = 1 ∧ s' 13 = P) : tkC b n i q s' := Or.inl ⟨by rw [h], h1.1, by rw [h]; exact h1.2⟩
theorem tkC_k {b : Int → Int} {n i q P e t v : Int} {s' : Nat → Int} (h : tok b n i = (t, v, P, e)) (h0 : 0 ≤ t) (h1 : s' 12 = 0) (h5 : s' 13 = q) (h2 : s' 9 = t) (h3 : s' 10 = P) (h4 : s' 11 = e) : tkC b n i q s' := Or.inr ⟨by rw [h]; exact h0, ⟨h1, h5⟩, by rw [h]; exact h2, by rw [h]; exact h3, by rw [h]; exact h4⟩
set_option maxHeartbeats 4000000 in
set_option maxRecDepth 100000 in
theorem C_r_numberRead {d n : Nat} {kd pl : Nat → Nat} {s : Nat → Int} {a : Nat → Int → Int} {c : Nat → cdt} {M : List va_E} {Q : Option Value → List va_E → Nat → Nat → Prop} (hW : wf n kd pl) (h4 : 0 ≤ s 4) (h4' : s 4 ≤ 600) (hb : ∀ j, 0 ≤ a 0 j ∧ a 0 j ≤ 255) (h0 : 0 ≤ s 10) (h1 : s 10 < s 11) (h2 : s 11 ≤ s 4) (k1 : s 11 - s 10 = 1 → Q (some (.int (iI (a 0 (s 10) - 48)))) (ch n kd pl s a c M) 0 0) (k2 : s 11 - s 10 ≠ 1 → ∀ r, r = (a 0 (s 10) - 48) * 10 + a 0 (s 10 + 1) - 48 → Q (some (.int (iI r))) (ch n kd pl s a c M) 0 0) : pm_E none (d + 1) pm_mm25 0 [(0, .ref (pl 9))] [] (ch n kd pl s a c M) 0 0 Q := by
  refine pm_e_sim pm_a25_0 rfl ?_
  show pm_E _ _ _ 1 [(0, .ref (pl 9))] [.ref (pl 9)] _ _ _ _
  refine pm_i_get pm_a25_1 rfl (cg_9 hW) rfl ?_
  show pm_E _ _ _ 4 [(0, .ref (pl 9))] [.ref (pl 1)] _ _ _ _
  refine pm_e_sim pm_a25_4 rfl ?_
  show pm_E _ _ _ 5 [(0, .ref (pl 9))] [.ref (pl 9), .ref (pl 1)] _ _ _ _
  refine pm_i_get pm_a25_5 rfl (cg_9 hW) rfl ?_
  show pm_E _ _ _ 8 [(0, .ref (pl 9))] [.int (iI (s 10)), .ref (pl 1)] _ _ _ _
  refine pm_i_callv (k := (pl 1)) (T2 := pm_mm19) pm_a25_8 rfl rfl rfl (cg_1 hW) ⟨Nat.le_of_ble_eq_true rfl, Nat.le_of_ble_eq_true rfl, rfl, by decide +kernel⟩ ?_
  show pm_E none _ _ 0 [(0, .ref (pl 1)), (1, .int (iI (s 10)))] [] _ _ _ _
  refine C_tat hW (by show 0 ≤ s 4; omega) (by show s 4 ≤ 600; omega) ⟨by omega, by omega⟩ (fun _ _ => ?_) (fun z9 => by exfalso; have z8 : s 10 < 0 ∨ s 4 ≤ s 10 := z9; omega)
  obtain ⟨_, _⟩ := hb (s 10)
  show pm_E _ _ _ 11 [(0, .ref (pl 9))] [.int (iI (a 0 (s 10)))] _ _ _ _
  refine pm_e_sim pm_a25_11 rfl ?_
  refine pm_e_top (y := iI 48) (by decide +kernel) ?_
  show pm_E _ _ _ 13 [(0, .ref (pl 9))] [.int (iI 48), .int (iI (a 0 (s 10)))] _ _ _ _
  refine pm_e_sim pm_a25_13 rfl ?_
  refine pm_e_top (y := iI (a 0 (s 10) - 48)) (iI_sub _ _) ?_
  show pm_E _ _ _ 14 [(0, .ref (pl 9))] [.int (iI (a 0 (s 10) - 48))] _ _ _ _
  refine pm_e_sim pm_a25_14 rfl ?_
  show pm_E _ _ _ 15 [(0, .ref (pl 9)), (1, .int (iI (a 0 (s 10) - 48)))] [] _ _ _ _
  refine pm_e_sim pm_a25_15 rfl ?_
  show pm_E _ _ _ 16 [(0, .ref (pl 9)), (1, .int (iI (a 0 (s 10) - 48)))] [.ref (pl 9)] _ _ _ _
  refine pm_i_get pm_a25_16 rfl (cg_9 hW) rfl ?_
  show pm_E _ _ _ 19 [(0, .ref (pl 9)), (1, .int (iI (a 0 (s 10) - 48)))] [.int (iI (s 11))] _ _ _ _
  refine pm_e_sim pm_a25_19 rfl ?_
  show pm_E _ _ _ 20 [(0, .ref (pl 9)), (1, .int (iI (a 0 (s 10) - 48)))] [.ref (pl 9), .int (iI (s 11))] _ _ _ _
  refine pm_i_get pm_a25_20 rfl (cg_9 hW) rfl ?_
  show pm_E _ _ _ 23 [(0, .ref (pl 9)), (1, .int (iI (a 0 (s 10) - 48)))] [.int (iI (s 10)), .int (iI (s 11))] _ _ _ _
  refine pm_e_sim pm_a25_23 rfl ?_
  refine pm_e_top (y := iI (s 11 - (s 10))) (iI_sub _ _) ?_
  show pm_E _ _ _ 24 [(0, .ref (pl 9)), (1, .int (iI (a 0 (s 10) - 48)))] [.int (iI (s 11 - (s 10)))] _ _ _ _
  refine pm_e_sim pm_a25_24 rfl ?_
  refine pm_e_top (y := iI 1) (by decide +kernel) ?_
  show pm_E _ _ _ 25 [(0, .ref (pl 9)), (1, .int (iI (a 0 (s 10) - 48)))] [.int (iI 1), .int (iI (s 11 - (s 10)))] _ _ _ _
  refine pm_c_ne (t := 32) pm_a25_25 rfl ⟨by omega, by omega⟩ ⟨by omega, by omega⟩ (fun h_1 => ?_) (fun h_1 => ?_)
  · skip
    show pm_E _ _ _ 32 [(0, .ref (pl 9)), (1, .int (iI (a 0 (s 10) - 48)))] [] _ _ _ _
    refine pm_e_sim pm_a25_32 rfl ?_
    show pm_E _ _ _ 33 [(0, .ref (pl 9)), (1, .int (iI (a 0 (s 10) - 48)))] [.int (iI (a 0 (s 10) - 48))] _ _ _ _
    refine pm_e_sim pm_a25_33 rfl ?_
    refine pm_e_top (y := iI 10) (by decide +kernel) ?_
    show pm_E _ _ _ 35 [(0, .ref (pl 9)), (1, .int (iI (a 0 (s 10) - 48)))] [.int (iI 10), .int (iI (a 0 (s 10) - 48))] _ _ _ _
    refine pm_e_sim pm_a25_35 rfl ?_
    refine pm_e_top (y := iI ((a 0 (s 10) - 48) * 10)) (iI_mul _ _) ?_
    show pm_E _ _ _ 36 [(0, .ref (pl 9)), (1, .int (iI (a 0 (s 10) - 48)))] [.int (iI ((a 0 (s 10) - 48) * 10))] _ _ _ _
    refine pm_e_sim pm_a25_36 rfl ?_
    show pm_E _ _ _ 37 [(0, .ref (pl 9)), (1, .int (iI (a 0 (s 10) - 48)))] [.ref (pl 9), .int (iI ((a 0 (s 10) - 48) * 10))] _ _ _ _
    refine pm_i_get pm_a25_37 rfl (cg_9 hW) rfl ?_
    show pm_E _ _ _ 40 [(0, .ref (pl 9)), (1, .int (iI (a 0 (s 10) - 48)))] [.ref (pl 1), .int (iI ((a 0 (s 10) - 48) * 10))] _ _ _ _
    refine pm_e_sim pm_a25_40 rfl ?_
    show pm_E _ _ _ 41 [(0, .ref (pl 9)), (1, .int (iI (a 0 (s 10) - 48)))] [.ref (pl 9), .ref (pl 1), .int (iI ((a 0 (s 10) - 48) * 10))] _ _ _ _
    refine pm_i_get pm_a25_41 rfl (cg_9 hW) rfl ?_
    show pm_E _ _ _ 44 [(0, .ref (pl 9)), (1, .int (iI (a 0 (s 10) - 48)))] [.int (iI (s 10)), .ref (pl 1), .int (iI ((a 0 (s 10) - 48) * 10))] _ _ _ _
    refine pm_e_sim pm_a25_44 rfl ?_
    refine pm_e_top (y := iI 1) (by decide +kernel) ?_
    show pm_E _ _ _ 45 [(0, .ref (pl 9)), (1, .int (iI (a 0 (s 10) - 48)))] [.int (iI 1), .int (iI (s 10)), .ref (pl 1), .int (iI ((a 0 (s 10) - 48) * 10))] _ _ _ _
    refine pm_e_sim pm_a25_45 rfl ?_
    refine pm_e_top (y := iI (s 10 + 1)) (iI_add _ _) ?_
    show pm_E _ _ _ 46 [(0, .ref (pl 9)), (1, .int (iI (a 0 (s 10) - 48)))] [.int (iI (s 10 + 1)), .ref (pl 1), .int (iI ((a 0 (s 10) - 48) * 10))] _ _ _ _
    refine pm_i_callv (k := (pl 1)) (T2 := pm_mm19) pm_a25_46 rfl rfl rfl (cg_1 hW) ⟨Nat.le_of_ble_eq_true rfl, Nat.le_of_ble_eq_true rfl, rfl, by decide +kernel⟩ ?_
    show pm_E none _ _ 0 [(0, .ref (pl 1)), (1, .int (iI (s 10 + 1)))] [] _ _ _ _
    refine C_tat hW (by show 0 ≤ s 4; omega) (by show s 4 ≤ 600; omega) ⟨by omega, by omega⟩ (fun _ _ => ?_) (fun z9 => by exfalso; have z8 : s 10 + 1 < 0 ∨ s 4 ≤ s 10 + 1 := z9; omega)
    obtain ⟨_, _⟩ := hb (s 10 + 1)
    show pm_E _ _ _ 49 [(0, .ref (pl 9)), (1, .int (iI (a 0 (s 10) - 48)))] [.int (iI (a 0 (s 10 + 1))), .int (iI ((a 0 (s 10) - 48) * 10))] _ _ _ _
    refine pm_e_sim pm_a25_49 rfl ?_
    refine pm_e_top (y := iI ((a 0 (s 10) - 48) * 10 + (a 0 (s 10 + 1)))) (iI_add _ _) ?_
    show pm_E _ _ _ 50 [(0, .ref (pl 9)), (1, .int (iI (a 0 (s 10) - 48)))] [.int (iI ((a 0 (s 10) - 48) * 10 + (a 0 (s 10 + 1))))] _ _ _ _
    refine pm_e_sim pm_a25_50 rfl ?_
    refine pm_e_top (y := iI 48) (by decide +kernel) ?_
    show pm_E _ _ _ 52 [(0, .ref (pl 9)), (1, .int (iI (a 0 (s 10) - 48)))] [.int (iI 48), .int (iI ((a 0 (s 10) - 48) * 10 + (a 0 (s 10 + 1))))] _ _ _ _
    refine pm_e_sim pm_a25_52 rfl ?_
    refine pm_e_top (y := iI ((a 0 (s 10) - 48) * 10 + (a 0 (s 10 + 1)) - 48)) (iI_sub _ _) ?_
    show pm_E _ _ _ 53 [(0, .ref (pl 9)), (1, .int (iI (a 0 (s 10) - 48)))] [.int (iI ((a 0 (s 10) - 48) * 10 + (a 0 (s 10 + 1)) - 48))] _ _ _ _
    refine pm_e_ret pm_a25_53 rfl rfl rfl rfl rfl rfl rfl rfl ?_
    refine k2 (by omega) _ ?_
    rfl
  · skip
    show pm_E _ _ _ 28 [(0, .ref (pl 9)), (1, .int (iI (a 0 (s 10) - 48)))] [] _ _ _ _
    refine pm_e_sim pm_a25_28 rfl ?_
    show pm_E _ _ _ 29 [(0, .ref (pl 9)), (1, .int (iI (a 0 (s 10) - 48)))] [.int (iI (a 0 (s 10) - 48))] _ _ _ _
    refine pm_e_goto pm_a25_29 rfl ?_
    show pm_E _ _ _ 53 [(0, .ref (pl 9)), (1, .int (iI (a 0 (s 10) - 48)))] [.int (iI (a 0 (s 10) - 48))] _ _ _ _
    refine pm_e_ret pm_a25_53 rfl rfl rfl rfl rfl rfl rfl rfl ?_
    exact k1 (by omega)
set_option maxHeartbeats 4000000 in
set_option maxRecDepth 100000 in
theorem C_r_name_l {d n : Nat} {kd pl : Nat → Nat} {a : Nat → Int → Int} {c : Nat → cdt} {M : List va_E} {Q : Option Value → List va_E → Nat → Nat → Prop} {N : Int} {P : Int} (hW : wf n kd pl) (hb : ∀ j, 0 ≤ a 0 j ∧ a 0 j ≤ 255) (hN : N ≤ 600) : ∀ (f : Nat) (s : Nat → Int) (v : Int), 0 ≤ s 11 → s 11 ≤ N → s 4 = N → (∀ s', s' 11 = (rdl (a 0) 97 122 27 96 8 N P f (s 11) v).1 → (∀ i, i ≠ 11 → s' i = s i) → pm_E none (d + 1) pm_mm21 49 [(0, .ref (pl 9))] [] (ch n kd pl s' a c M) 0 0 Q) → N - s 11 < (f : Int) → pm_E none (d + 1) pm_mm21 5 [(0, .ref (pl 9))] [] (ch n kd pl s a c M) 0 0 Q := by
  intro f
  induction f with
  | zero =>
    intro s v h0 h1 h4 k hf
    exfalso; omega
  | succ f ih =>
    intro s v h0 h1 h4 k hf
    refine pm_e_sim pm_a21_5 rfl ?_
    show pm_E _ _ _ 6 [(0, .ref (pl 9))] [.ref (pl 9)] _ _ _ _
    refine pm_i_get pm_a21_6 rfl (cg_9 hW) rfl ?_
    show pm_E _ _ _ 9 [(0, .ref (pl 9))] [.int (iI (s 11))] _ _ _ _
    refine pm_e_sim pm_a21_9 rfl ?_
    show pm_E _ _ _ 10 [(0, .ref (pl 9))] [.ref (pl 9), .int (iI (s 11))] _ _ _ _
    refine pm_i_get pm_a21_10 rfl (cg_9 hW) rfl ?_
    show pm_E _ _ _ 13 [(0, .ref (pl 9))] [.ref (pl 1), .int (iI (s 11))] _ _ _ _
    refine pm_i_get pm_a21_13 rfl (cg_1 hW) rfl ?_
    show pm_E _ _ _ 16 [(0, .ref (pl 9))] [.int (iI (s 4)), .int (iI (s 11))] _ _ _ _
    refine pm_c_ge (t := 49) pm_a21_16 rfl ⟨by omega, by omega⟩ ⟨by omega, by omega⟩ (fun h_1 => ?_) (fun h_1 => ?_)
    · skip
      show pm_E _ _ _ 49 [(0, .ref (pl 9))] [] _ _ _ _
      exact k s (by rw [rdl_n (by omega)]) (fun _ _ => rfl)
    · skip
      show pm_E _ _ _ 19 [(0, .ref (pl 9))] [] _ _ _ _
      refine pm_e_sim pm_a21_19 rfl ?_
      show pm_E _ _ _ 20 [(0, .ref (pl 9))] [.ref (pl 9)] _ _ _ _
      refine pm_i_get pm_a21_20 rfl (cg_9 hW) rfl ?_
      show pm_E _ _ _ 23 [(0, .ref (pl 9))] [.ref (pl 1)] _ _ _ _
      refine pm_e_sim pm_a21_23 rfl ?_
      show pm_E _ _ _ 24 [(0, .ref (pl 9))] [.ref (pl 9), .ref (pl 1)] _ _ _ _
      refine pm_i_get pm_a21_24 rfl (cg_9 hW) rfl ?_
      show pm_E _ _ _ 27 [(0, .ref (pl 9))] [.int (iI (s 11)), .ref (pl 1)] _ _ _ _
      refine pm_i_callv (k := (pl 1)) (T2 := pm_mm19) pm_a21_27 rfl rfl rfl (cg_1 hW) ⟨Nat.le_of_ble_eq_true rfl, Nat.le_of_ble_eq_true rfl, rfl, by decide +kernel⟩ ?_
      show pm_E none _ _ 0 [(0, .ref (pl 1)), (1, .int (iI (s 11)))] [] _ _ _ _
      refine C_tat hW (by show 0 ≤ s 4; omega) (by show s 4 ≤ 600; omega) ⟨by omega, by omega⟩ (fun _ _ => ?_) (fun z9 => by exfalso; have z8 : s 11 < 0 ∨ s 4 ≤ s 11 := z9; omega)
      obtain ⟨_, _⟩ := hb (s 11)
      show pm_E _ _ _ 30 [(0, .ref (pl 9))] [.int (iI (a 0 (s 11)))] _ _ _ _
      refine pm_e_call (T2 := pm_mm20) pm_a21_30 rfl rfl rfl rfl rfl rfl rfl rfl rfl ?_
      show pm_E none _ _ 0 [(0, .int (iI (a 0 (s 11))))] [] _ _ _ _
      refine C_isSmall ⟨by omega, by omega⟩ (fun t_2 o_2 => ?_) (fun t_2 => ?_)
      · skip
        show pm_E _ _ _ 33 [(0, .ref (pl 9))] [.int (iI 1)] _ _ _ _
        refine pm_e_iff pm_a21_33 rfl (by decide +kernel) ?_
        show pm_E _ _ _ 36 [(0, .ref (pl 9))] [] _ _ _ _
        refine pm_e_sim pm_a21_36 rfl ?_
        show pm_E _ _ _ 37 [(0, .ref (pl 9))] [.ref (pl 9)] _ _ _ _
        refine pm_e_sim pm_a21_37 rfl ?_
        show pm_E _ _ _ 38 [(0, .ref (pl 9))] [.ref (pl 9), .ref (pl 9)] _ _ _ _
        refine pm_i_get pm_a21_38 rfl (cg_9 hW) rfl ?_
        show pm_E _ _ _ 41 [(0, .ref (pl 9))] [.int (iI (s 11)), .ref (pl 9)] _ _ _ _
        refine pm_e_sim pm_a21_41 rfl ?_
        refine pm_e_top (y := iI 1) (by decide +kernel) ?_
        show pm_E _ _ _ 42 [(0, .ref (pl 9))] [.int (iI 1), .int (iI (s 11)), .ref (pl 9)] _ _ _ _
        refine pm_e_sim pm_a21_42 rfl ?_
        refine pm_e_top (y := iI (s 11 + 1)) (iI_add _ _) ?_
        show pm_E _ _ _ 43 [(0, .ref (pl 9))] [.int (iI (s 11 + 1)), .ref (pl 9)] _ _ _ _
        refine pm_i_put pm_a21_43 rfl (cg_9 hW) rfl (Nat.le_of_ble_eq_true rfl) (Or.inl rfl) (cw_11 hW (s 11 + 1)) ?_
        show pm_E _ _ _ 46 [(0, .ref (pl 9))] [] _ _ _ _
        refine pm_e_goto pm_a21_46 rfl ?_
        show pm_E _ _ _ 5 [(0, .ref (pl 9))] [] _ _ _ _
        refine ih (updS s 11 (s 11 + 1)) (if s 11 - P < 8 then ((27 * v) + a 0 (s 11)) - 96 else v) (by show 0 ≤ s 11 + 1; omega) (by show s 11 + 1 ≤ N; omega) h4 (fun s' e g => k s' (e.trans ?_) (fun i hi => (g i hi).trans (updS_o hi))) (by show N - (s 11 + 1) < (f : Int); omega)
        show (rdl (a 0) 97 122 27 96 8 N P f (s 11 + 1) _).1 = (rdl (a 0) 97 122 27 96 8 N P (f + 1) (s 11) v).1
        rw [rdl_s (by omega) (by omega) (by omega)]
      · skip
        show pm_E _ _ _ 33 [(0, .ref (pl 9))] [.int (iI 0)] _ _ _ _
        refine pm_e_ift pm_a21_33 rfl (by decide +kernel) ?_
        show pm_E _ _ _ 49 [(0, .ref (pl 9))] [] _ _ _ _
        exact k s (by rw [rdl_n (by omega)]) (fun _ _ => rfl)
set_option maxHeartbeats 4000000 in
set_option maxRecDepth 100000 in
theorem C_r_number_l {d n : Nat} {kd pl : Nat → Nat} {a : Nat → Int → Int} {c : Nat → cdt} {M : List va_E} {Q : Option Value → List va_E → Nat → Nat → Prop} {N : Int} {P : Int} (hW : wf n kd pl) (hb : ∀ j, 0 ≤ a 0 j ∧ a 0 j ≤ 255) (hN : N ≤ 600) : ∀ (f : Nat) (s : Nat → Int) (v : Int), 0 ≤ s 11 → s 11 ≤ N → s 4 = N → (∀ s', s' 11 = (rdl (a 0) 48 57 10 48 2 N P f (s 11) v).1 → (∀ i, i ≠ 11 → s' i = s i) → pm_E none (d + 1) pm_mm24 49 [(0, .ref (pl 9))] [] (ch n kd pl s' a c M) 0 0 Q) → N - s 11 < (f : Int) → pm_E none (d + 1) pm_mm24 5 [(0, .ref (pl 9))] [] (ch n kd pl s a c M) 0 0 Q := by
  intro f
  induction f with
  | zero =>
    intro s v h0 h1 h4 k hf
    exfalso; omega
  | succ f ih =>
    intro s v h0 h1 h4 k hf
    refine pm_e_sim pm_a24_5 rfl ?_
    show pm_E _ _ _ 6 [(0, .ref (pl 9))] [.ref (pl 9)] _ _ _ _
    refine pm_i_get pm_a24_6 rfl (cg_9 hW) rfl ?_
    show pm_E _ _ _ 9 [(0, .ref (pl 9))] [.int (iI (s 11))] _ _ _ _
    refine pm_e_sim pm_a24_9 rfl ?_
    show pm_E _ _ _ 10 [(0, .ref (pl 9))] [.ref (pl 9), .int (iI (s 11))] _ _ _ _
    refine pm_i_get pm_a24_10 rfl (cg_9 hW) rfl ?_
    show pm_E _ _ _ 13 [(0, .ref (pl 9))] [.ref (pl 1), .int (iI (s 11))] _ _ _ _
    refine pm_i_get pm_a24_13 rfl (cg_1 hW) rfl ?_
    show pm_E _ _ _ 16 [(0, .ref (pl 9))] [.int (iI (s 4)), .int (iI (s 11))] _ _ _ _
    refine pm_c_ge (t := 49) pm_a24_16 rfl ⟨by omega, by omega⟩ ⟨by omega, by omega⟩ (fun h_1 => ?_) (fun h_1 => ?_)
    · skip
      show pm_E _ _ _ 49 [(0, .ref (pl 9))] [] _ _ _ _
      exact k s (by rw [rdl_n (by omega)]) (fun _ _ => rfl)
    · skip
      show pm_E _ _ _ 19 [(0, .ref (pl 9))] [] _ _ _ _
      refine pm_e_sim pm_a24_19 rfl ?_
      show pm_E _ _ _ 20 [(0, .ref (pl 9))] [.ref (pl 9)] _ _ _ _
      refine pm_i_get pm_a24_20 rfl (cg_9 hW) rfl ?_
      show pm_E _ _ _ 23 [(0, .ref (pl 9))] [.ref (pl 1)] _ _ _ _
      refine pm_e_sim pm_a24_23 rfl ?_
      show pm_E _ _ _ 24 [(0, .ref (pl 9))] [.ref (pl 9), .ref (pl 1)] _ _ _ _
      refine pm_i_get pm_a24_24 rfl (cg_9 hW) rfl ?_
      show pm_E _ _ _ 27 [(0, .ref (pl 9))] [.int (iI (s 11)), .ref (pl 1)] _ _ _ _
      refine pm_i_callv (k := (pl 1)) (T2 := pm_mm19) pm_a24_27 rfl rfl rfl (cg_1 hW) ⟨Nat.le_of_ble_eq_true rfl, Nat.le_of_ble_eq_true rfl, rfl, by decide +kernel⟩ ?_
      show pm_E none _ _ 0 [(0, .ref (pl 1)), (1, .int (iI (s 11)))] [] _ _ _ _
      refine C_tat hW (by show 0 ≤ s 4; omega) (by show s 4 ≤ 600; omega) ⟨by omega, by omega⟩ (fun _ _ => ?_) (fun z9 => by exfalso; have z8 : s 11 < 0 ∨ s 4 ≤ s 11 := z9; omega)
      obtain ⟨_, _⟩ := hb (s 11)
      show pm_E _ _ _ 30 [(0, .ref (pl 9))] [.int (iI (a 0 (s 11)))] _ _ _ _
      refine pm_e_call (T2 := pm_mm23) pm_a24_30 rfl rfl rfl rfl rfl rfl rfl rfl rfl ?_
      show pm_E none _ _ 0 [(0, .int (iI (a 0 (s 11))))] [] _ _ _ _
      refine C_isFigure ⟨by omega, by omega⟩ (fun t_2 o_2 => ?_) (fun t_2 => ?_)
      · skip
        show pm_E _ _ _ 33 [(0, .ref (pl 9))] [.int (iI 1)] _ _ _ _
        refine pm_e_iff pm_a24_33 rfl (by decide +kernel) ?_
        show pm_E _ _ _ 36 [(0, .ref (pl 9))] [] _ _ _ _
        refine pm_e_sim pm_a24_36 rfl ?_
        show pm_E _ _ _ 37 [(0, .ref (pl 9))] [.ref (pl 9)] _ _ _ _
        refine pm_e_sim pm_a24_37 rfl ?_
        show pm_E _ _ _ 38 [(0, .ref (pl 9))] [.ref (pl 9), .ref (pl 9)] _ _ _ _
        refine pm_i_get pm_a24_38 rfl (cg_9 hW) rfl ?_
        show pm_E _ _ _ 41 [(0, .ref (pl 9))] [.int (iI (s 11)), .ref (pl 9)] _ _ _ _
        refine pm_e_sim pm_a24_41 rfl ?_
        refine pm_e_top (y := iI 1) (by decide +kernel) ?_
        show pm_E _ _ _ 42 [(0, .ref (pl 9))] [.int (iI 1), .int (iI (s 11)), .ref (pl 9)] _ _ _ _
        refine pm_e_sim pm_a24_42 rfl ?_
        refine pm_e_top (y := iI (s 11 + 1)) (iI_add _ _) ?_
        show pm_E _ _ _ 43 [(0, .ref (pl 9))] [.int (iI (s 11 + 1)), .ref (pl 9)] _ _ _ _
        refine pm_i_put pm_a24_43 rfl (cg_9 hW) rfl (Nat.le_of_ble_eq_true rfl) (Or.inl rfl) (cw_11 hW (s 11 + 1)) ?_
        show pm_E _ _ _ 46 [(0, .ref (pl 9))] [] _ _ _ _
        refine pm_e_goto pm_a24_46 rfl ?_
        show pm_E _ _ _ 5 [(0, .ref (pl 9))] [] _ _ _ _
        refine ih (updS s 11 (s 11 + 1)) (if s 11 - P < 2 then ((10 * v) + a 0 (s 11)) - 48 else v) (by show 0 ≤ s 11 + 1; omega) (by show s 11 + 1 ≤ N; omega) h4 (fun s' e g => k s' (e.trans ?_) (fun i hi => (g i hi).trans (updS_o hi))) (by show N - (s 11 + 1) < (f : Int); omega)
        show (rdl (a 0) 48 57 10 48 2 N P f (s 11 + 1) _).1 = (rdl (a 0) 48 57 10 48 2 N P (f + 1) (s 11) v).1
        rw [rdl_s (by omega) (by omega) (by omega)]
      · skip
        show pm_E _ _ _ 33 [(0, .ref (pl 9))] [.int (iI 0)] _ _ _ _
        refine pm_e_ift pm_a24_33 rfl (by decide +kernel) ?_
        show pm_E _ _ _ 49 [(0, .ref (pl 9))] [] _ _ _ _
        exact k s (by rw [rdl_n (by omega)]) (fun _ _ => rfl)
set_option maxHeartbeats 4000000 in
set_option maxRecDepth 100000 in
theorem C_r_name_t {d n : Nat} {kd pl : Nat → Nat} {s : Nat → Int} {a : Nat → Int → Int} {c : Nat → cdt} {M : List va_E} {Q : Option Value → List va_E → Nat → Nat → Prop} (hW : wf n kd pl) (h0 : 0 ≤ s 10) (h1 : s 10 ≤ s 11) (h2 : s 11 ≤ 600) (k1 : s 11 - s 10 ≤ 8 → Q none (ch n kd pl s a c M) 0 0) (k0 : 8 < s 11 - s 10 → ∀ s', (s' 12 = 1 ∧ s' 13 = s 10) → (∀ i, i ≠ 12 → i ≠ 13 → s' i = s i) → Q none (ch n kd pl s' a c M) 0 0) : pm_E none (d + 1) pm_mm21 49 [(0, .ref (pl 9))] [] (ch n kd pl s a c M) 0 0 Q := by
  refine pm_e_sim pm_a21_49 rfl ?_
  show pm_E _ _ _ 50 [(0, .ref (pl 9))] [.ref (pl 9)] _ _ _ _
  refine pm_i_get pm_a21_50 rfl (cg_9 hW) rfl ?_
  show pm_E _ _ _ 53 [(0, .ref (pl 9))] [.int (iI (s 11))] _ _ _ _
  refine pm_e_sim pm_a21_53 rfl ?_
  show pm_E _ _ _ 54 [(0, .ref (pl 9))] [.ref (pl 9), .int (iI (s 11))] _ _ _ _
  refine pm_i_get pm_a21_54 rfl (cg_9 hW) rfl ?_
  show pm_E _ _ _ 57 [(0, .ref (pl 9))] [.int (iI (s 10)), .int (iI (s 11))] _ _ _ _
  refine pm_e_sim pm_a21_57 rfl ?_
  refine pm_e_top (y := iI (s 11 - (s 10))) (iI_sub _ _) ?_
  show pm_E _ _ _ 58 [(0, .ref (pl 9))] [.int (iI (s 11 - (s 10)))] _ _ _ _
  refine pm_e_sim pm_a21_58 rfl ?_
  refine pm_e_top (y := iI 8) (by decide +kernel) ?_
  show pm_E _ _ _ 60 [(0, .ref (pl 9))] [.int (iI 8), .int (iI (s 11 - (s 10)))] _ _ _ _
  refine pm_c_le (t := 68) pm_a21_60 rfl ⟨by omega, by omega⟩ ⟨by omega, by omega⟩ (fun h_1 => ?_) (fun h_1 => ?_)
  · skip
    show pm_E _ _ _ 68 [(0, .ref (pl 9))] [] _ _ _ _
    refine pm_e_ret pm_a21_68 rfl rfl rfl rfl rfl rfl rfl rfl ?_
    exact k1 (by omega)
  · skip
    show pm_E _ _ _ 63 [(0, .ref (pl 9))] [] _ _ _ _
    refine pm_e_sim pm_a21_63 rfl ?_
    show pm_E _ _ _ 64 [(0, .ref (pl 9))] [.ref (pl 9)] _ _ _ _
    refine pm_e_sim pm_a21_64 rfl ?_
    refine pm_e_top (y := iI 1) (by decide +kernel) ?_
    show pm_E _ _ _ 65 [(0, .ref (pl 9))] [.int (iI 1), .ref (pl 9)] _ _ _ _
    refine pm_i_callv (k := (pl 9)) (T2 := pm_mm22) pm_a21_65 rfl rfl rfl (cg_9 hW) ⟨Nat.le_of_ble_eq_true rfl, Nat.le_of_ble_eq_true rfl, rfl, by decide +kernel⟩ ?_
    show pm_E none _ _ 0 [(0, .ref (pl 9)), (1, .int (iI 1))] [] _ _ _ _
    refine C_r_fail hW (fun s_2 f_2 g_2 => ?_)
    have e0_2 : s_2 0 = s 0 := g_2 0 (by decide) (by decide)
    have e1_2 : s_2 1 = s 1 := g_2 1 (by decide) (by decide)
    have e2_2 : s_2 2 = s 2 := g_2 2 (by decide) (by decide)
    have e3_2 : s_2 3 = s 3 := g_2 3 (by decide) (by decide)
    have e4_2 : s_2 4 = s 4 := g_2 4 (by decide) (by decide)
    have e5_2 : s_2 5 = s 5 := g_2 5 (by decide) (by decide)
    have e6_2 : s_2 6 = s 6 := g_2 6 (by decide) (by decide)
    have e7_2 : s_2 7 = s 7 := g_2 7 (by decide) (by decide)
    have e8_2 : s_2 8 = s 8 := g_2 8 (by decide) (by decide)
    have e9_2 : s_2 9 = s 9 := g_2 9 (by decide) (by decide)
    have e10_2 : s_2 10 = s 10 := g_2 10 (by decide) (by decide)
    have e11_2 : s_2 11 = s 11 := g_2 11 (by decide) (by decide)
    show pm_E _ _ _ 68 [(0, .ref (pl 9))] [] _ _ _ _
    refine pm_e_ret pm_a21_68 rfl rfl rfl rfl rfl rfl rfl rfl ?_
    exact k0 (by omega) s_2 f_2 g_2
set_option maxHeartbeats 4000000 in
set_option maxRecDepth 100000 in
theorem C_r_number_t {d n : Nat} {kd pl : Nat → Nat} {s : Nat → Int} {a : Nat → Int → Int} {c : Nat → cdt} {M : List va_E} {Q : Option Value → List va_E → Nat → Nat → Prop} {V : Int} (hW : wf n kd pl) (h4 : 0 ≤ s 4) (h4' : s 4 ≤ 600) (hb : ∀ j, 0 ≤ a 0 j ∧ a 0 j ≤ 255) (h0 : 0 ≤ s 10) (h1 : s 10 < s 11) (h2 : s 11 ≤ s 4) (hv1 : s 11 - s 10 = 1 → V = a 0 (s 10) - 48) (hv2 : s 11 - s 10 ≠ 1 → s 11 - s 10 ≤ 2 → V = (a 0 (s 10) - 48) * 10 + a 0 (s 10 + 1) - 48) (k1 : s 11 - s 10 ≤ 2 → V ≤ 20 → Q none (ch n kd pl s a c M) 0 0) (k0 : 2 < s 11 - s 10 ∨ 20 < V → ∀ s', (s' 12 = 1 ∧ s' 13 = s 10) → (∀ i, i ≠ 12 → i ≠ 13 → s' i = s i) → Q none (ch n kd pl s' a c M) 0 0) : pm_E none (d + 2) pm_mm24 49 [(0, .ref (pl 9))] [] (ch n kd pl s a c M) 0 0 Q := by
  refine pm_e_sim pm_a24_49 rfl ?_
  show pm_E _ _ _ 50 [(0, .ref (pl 9))] [.ref (pl 9)] _ _ _ _
  refine pm_i_get pm_a24_50 rfl (cg_9 hW) rfl ?_
  show pm_E _ _ _ 53 [(0, .ref (pl 9))] [.int (iI (s 11))] _ _ _ _
  refine pm_e_sim pm_a24_53 rfl ?_
  show pm_E _ _ _ 54 [(0, .ref (pl 9))] [.ref (pl 9), .int (iI (s 11))] _ _ _ _
  refine pm_i_get pm_a24_54 rfl (cg_9 hW) rfl ?_
  show pm_E _ _ _ 57 [(0, .ref (pl 9))] [.int (iI (s 10)), .int (iI (s 11))] _ _ _ _
  refine pm_e_sim pm_a24_57 rfl ?_
  refine pm_e_top (y := iI (s 11 - (s 10))) (iI_sub _ _) ?_
  show pm_E _ _ _ 58 [(0, .ref (pl 9))] [.int (iI (s 11 - (s 10)))] _ _ _ _
  refine pm_e_sim pm_a24_58 rfl ?_
  refine pm_e_top (y := iI 2) (by decide +kernel) ?_
  show pm_E _ _ _ 59 [(0, .ref (pl 9))] [.int (iI 2), .int (iI (s 11 - (s 10)))] _ _ _ _
  refine pm_c_gt (t := 71) pm_a24_59 rfl ⟨by omega, by omega⟩ ⟨by omega, by omega⟩ (fun h_1 => ?_) (fun h_1 => ?_)
  · skip
    show pm_E _ _ _ 71 [(0, .ref (pl 9))] [] _ _ _ _
    refine pm_e_sim pm_a24_71 rfl ?_
    show pm_E _ _ _ 72 [(0, .ref (pl 9))] [.ref (pl 9)] _ _ _ _
    refine pm_e_sim pm_a24_72 rfl ?_
    refine pm_e_top (y := iI 1) (by decide +kernel) ?_
    show pm_E _ _ _ 73 [(0, .ref (pl 9))] [.int (iI 1), .ref (pl 9)] _ _ _ _
    refine pm_i_callv (k := (pl 9)) (T2 := pm_mm22) pm_a24_73 rfl rfl rfl (cg_9 hW) ⟨Nat.le_of_ble_eq_true rfl, Nat.le_of_ble_eq_true rfl, rfl, by decide +kernel⟩ ?_
    show pm_E none _ _ 0 [(0, .ref (pl 9)), (1, .int (iI 1))] [] _ _ _ _
    refine C_r_fail hW (fun s_2 f_2 g_2 => ?_)
    have e0_2 : s_2 0 = s 0 := g_2 0 (by decide) (by decide)
    have e1_2 : s_2 1 = s 1 := g_2 1 (by decide) (by decide)
    have e2_2 : s_2 2 = s 2 := g_2 2 (by decide) (by decide)
    have e3_2 : s_2 3 = s 3 := g_2 3 (by decide) (by decide)
    have e4_2 : s_2 4 = s 4 := g_2 4 (by decide) (by decide)
    have e5_2 : s_2 5 = s 5 := g_2 5 (by decide) (by decide)
    have e6_2 : s_2 6 = s 6 := g_2 6 (by decide) (by decide)
    have e7_2 : s_2 7 = s 7 := g_2 7 (by decide) (by decide)
    have e8_2 : s_2 8 = s 8 := g_2 8 (by decide) (by decide)
    have e9_2 : s_2 9 = s 9 := g_2 9 (by decide) (by decide)
    have e10_2 : s_2 10 = s 10 := g_2 10 (by decide) (by decide)
    have e11_2 : s_2 11 = s 11 := g_2 11 (by decide) (by decide)
    show pm_E _ _ _ 76 [(0, .ref (pl 9))] [] _ _ _ _
    refine pm_e_ret pm_a24_76 rfl rfl rfl rfl rfl rfl rfl rfl ?_
    exact k0 (by omega) s_2 f_2 g_2
  · skip
    show pm_E _ _ _ 62 [(0, .ref (pl 9))] [] _ _ _ _
    refine pm_e_sim pm_a24_62 rfl ?_
    show pm_E _ _ _ 63 [(0, .ref (pl 9))] [.ref (pl 9)] _ _ _ _
    refine pm_i_callv (k := (pl 9)) (T2 := pm_mm25) pm_a24_63 rfl rfl rfl (cg_9 hW) ⟨Nat.le_of_ble_eq_true rfl, Nat.le_of_ble_eq_true rfl, rfl, by decide +kernel⟩ ?_
    show pm_E none _ _ 0 [(0, .ref (pl 9))] [] _ _ _ _
    refine C_r_numberRead hW h4 h4' hb h0 h1 h2 (fun n_3 => ?_) (fun n_3 r_3 m_3 => ?_)
    · skip
      obtain ⟨_, _⟩ := hb (s 10)
      have v_9 := hv1 n_3
      show pm_E _ _ _ 66 [(0, .ref (pl 9))] [.int (iI (a 0 (s 10) - 48))] _ _ _ _
      refine pm_e_sim pm_a24_66 rfl ?_
      refine pm_e_top (y := iI 20) (by decide +kernel) ?_
      show pm_E _ _ _ 68 [(0, .ref (pl 9))] [.int (iI 20), .int (iI (a 0 (s 10) - 48))] _ _ _ _
      refine pm_c_le (t := 76) pm_a24_68 rfl ⟨by omega, by omega⟩ ⟨by omega, by omega⟩ (fun h_4 => ?_) (fun h_4 => ?_)
      · skip
        show pm_E _ _ _ 76 [(0, .ref (pl 9))] [] _ _ _ _
        refine pm_e_ret pm_a24_76 rfl rfl rfl rfl rfl rfl rfl rfl ?_
        exact k1 (by omega) (by omega)
      · skip
        show pm_E _ _ _ 71 [(0, .ref (pl 9))] [] _ _ _ _
        refine pm_e_sim pm_a24_71 rfl ?_
        show pm_E _ _ _ 72 [(0, .ref (pl 9))] [.ref (pl 9)] _ _ _ _
        refine pm_e_sim pm_a24_72 rfl ?_
        refine pm_e_top (y := iI 1) (by decide +kernel) ?_
        show pm_E _ _ _ 73 [(0, .ref (pl 9))] [.int (iI 1), .ref (pl 9)] _ _ _ _
        refine pm_i_callv (k := (pl 9)) (T2 := pm_mm22) pm_a24_73 rfl rfl rfl (cg_9 hW) ⟨Nat.le_of_ble_eq_true rfl, Nat.le_of_ble_eq_true rfl, rfl, by decide +kernel⟩ ?_
        show pm_E none _ _ 0 [(0, .ref (pl 9)), (1, .int (iI 1))] [] _ _ _ _
        refine C_r_fail hW (fun s_5 f_5 g_5 => ?_)
        have e0_5 : s_5 0 = s 0 := g_5 0 (by decide) (by decide)
        have e1_5 : s_5 1 = s 1 := g_5 1 (by decide) (by decide)
        have e2_5 : s_5 2 = s 2 := g_5 2 (by decide) (by decide)
        have e3_5 : s_5 3 = s 3 := g_5 3 (by decide) (by decide)
        have e4_5 : s_5 4 = s 4 := g_5 4 (by decide) (by decide)
        have e5_5 : s_5 5 = s 5 := g_5 5 (by decide) (by decide)
        have e6_5 : s_5 6 = s 6 := g_5 6 (by decide) (by decide)
        have e7_5 : s_5 7 = s 7 := g_5 7 (by decide) (by decide)
        have e8_5 : s_5 8 = s 8 := g_5 8 (by decide) (by decide)
        have e9_5 : s_5 9 = s 9 := g_5 9 (by decide) (by decide)
        have e10_5 : s_5 10 = s 10 := g_5 10 (by decide) (by decide)
        have e11_5 : s_5 11 = s 11 := g_5 11 (by decide) (by decide)
        show pm_E _ _ _ 76 [(0, .ref (pl 9))] [] _ _ _ _
        refine pm_e_ret pm_a24_76 rfl rfl rfl rfl rfl rfl rfl rfl ?_
        exact k0 (by omega) s_5 f_5 g_5
    · skip
      obtain ⟨_, _⟩ := hb (s 10)
      obtain ⟨_, _⟩ := hb (s 10 + 1)
      have v_9 : V = r_3 := by rw [m_3]; exact hv2 n_3 (by omega)
      show pm_E _ _ _ 66 [(0, .ref (pl 9))] [.int (iI r_3)] _ _ _ _
      refine pm_e_sim pm_a24_66 rfl ?_
      refine pm_e_top (y := iI 20) (by decide +kernel) ?_
      show pm_E _ _ _ 68 [(0, .ref (pl 9))] [.int (iI 20), .int (iI r_3)] _ _ _ _
      refine pm_c_le (t := 76) pm_a24_68 rfl ⟨by omega, by omega⟩ ⟨by omega, by omega⟩ (fun h_6 => ?_) (fun h_6 => ?_)
      · skip
        show pm_E _ _ _ 76 [(0, .ref (pl 9))] [] _ _ _ _
        refine pm_e_ret pm_a24_76 rfl rfl rfl rfl rfl rfl rfl rfl ?_
        exact k1 (by omega) (by omega)
      · skip
        show pm_E _ _ _ 71 [(0, .ref (pl 9))] [] _ _ _ _
        refine pm_e_sim pm_a24_71 rfl ?_
        show pm_E _ _ _ 72 [(0, .ref (pl 9))] [.ref (pl 9)] _ _ _ _
        refine pm_e_sim pm_a24_72 rfl ?_
        refine pm_e_top (y := iI 1) (by decide +kernel) ?_
        show pm_E _ _ _ 73 [(0, .ref (pl 9))] [.int (iI 1), .ref (pl 9)] _ _ _ _
        refine pm_i_callv (k := (pl 9)) (T2 := pm_mm22) pm_a24_73 rfl rfl rfl (cg_9 hW) ⟨Nat.le_of_ble_eq_true rfl, Nat.le_of_ble_eq_true rfl, rfl, by decide +kernel⟩ ?_
        show pm_E none _ _ 0 [(0, .ref (pl 9)), (1, .int (iI 1))] [] _ _ _ _
        refine C_r_fail hW (fun s_7 f_7 g_7 => ?_)
        have e0_7 : s_7 0 = s 0 := g_7 0 (by decide) (by decide)
        have e1_7 : s_7 1 = s 1 := g_7 1 (by decide) (by decide)
        have e2_7 : s_7 2 = s 2 := g_7 2 (by decide) (by decide)
        have e3_7 : s_7 3 = s 3 := g_7 3 (by decide) (by decide)
        have e4_7 : s_7 4 = s 4 := g_7 4 (by decide) (by decide)
        have e5_7 : s_7 5 = s 5 := g_7 5 (by decide) (by decide)
        have e6_7 : s_7 6 = s 6 := g_7 6 (by decide) (by decide)
        have e7_7 : s_7 7 = s 7 := g_7 7 (by decide) (by decide)
        have e8_7 : s_7 8 = s 8 := g_7 8 (by decide) (by decide)
        have e9_7 : s_7 9 = s 9 := g_7 9 (by decide) (by decide)
        have e10_7 : s_7 10 = s 10 := g_7 10 (by decide) (by decide)
        have e11_7 : s_7 11 = s 11 := g_7 11 (by decide) (by decide)
        show pm_E _ _ _ 76 [(0, .ref (pl 9))] [] _ _ _ _
        refine pm_e_ret pm_a24_76 rfl rfl rfl rfl rfl rfl rfl rfl ?_
        exact k0 (by omega) s_7 f_7 g_7
