/-! THE REFERENCE: readLambda -/
theorem rdl_val2 {g : Int → Int} {lo hi m z w n b : Int} (hm : 1 ≤ m) (hd : ∀ c, lo ≤ c → c ≤ hi → 0 ≤ c - z ∧ c - z ≤ m - 1) (hw : 0 ≤ w) : ∀ (f : Nat) (i v : Int), b ≤ i → 0 ≤ v → v + 1 ≤ m ^ (min (i - b) w).toNat → (rdl g lo hi m z w n b f i v).2 + 1 ≤ m ^ (min ((rdl g lo hi m z w n b f i v).1 - b) w).toNat := by
  intro f
  induction f with
  | zero => intro i v h0 h1 h2; exact h2
  | succ f ih =>
    intro i v h0 h1 h2
    by_cases h : i < n ∧ lo ≤ g i ∧ g i ≤ hi
    · have hc := hd (g i) h.2.1 h.2.2
      by_cases h3 : i - b < w
      · rw [rdl_y h.1 h.2.1 h.2.2 h3]
        have e1 : min (i - b) w = i - b := by omega
        have e2 : (min (i + 1 - b) w).toNat = (i - b).toNat + 1 := by omega
        rw [e1] at h2
        have hmv := Int.mul_nonneg (show 0 ≤ m by omega) h1
        refine ih (i + 1) _ (by omega) (by omega) ?_
        have hp : m ^ ((i - b).toNat + 1) = m * m ^ (i - b).toNat := by rw [Int.pow_succ, Int.mul_comm]
        rw [e2, hp]
        have := Int.mul_le_mul_of_nonneg_left h2 (show 0 ≤ m by omega)
        rw [Int.mul_add, Int.mul_one] at this
        omega
      · rw [rdl_z h.1 h.2.1 h.2.2 (by omega)]
        refine ih (i + 1) v (by omega) h1 ?_
        rw [show min (i + 1 - b) w = min (i - b) w by omega]; exact h2
    · rw [rdl_n (by omega)]; exact h2
theorem tok_dig {b : Int → Int} {n i : Int} (hk : (tok b n i).1 = 2) (hd : (tok b n i).2.2.2 - (tok b n i).2.2.1 = 1) : (tok b n i).2.1 ≤ 9 := by
  have h := rdl_val2 (g := b) (lo := 48) (hi := 57) (m := 10) (z := 48) (w := 2) (n := n) (b := skp b n 600 i) (by omega) (fun c _ _ => by omega) (by omega) 600 (skp b n 600 i) 0 (by omega) (by omega) (by rw [show (min (skp b n 600 i - skp b n 600 i) 2).toNat = 0 by omega]; decide)
  unfold tok at hk hd ⊢
  split at hk
  · simp at hk
  · rename_i c0
    rw [if_neg c0] at hd ⊢
    split at hk
    · split at hk <;> simp at hk
    · rename_i c1
      rw [if_neg c1] at hd ⊢
      split at hk
      · rename_i c2
        rw [if_pos c2] at hd ⊢
        split at hk
        · rename_i c3
          rw [if_pos c3] at hd ⊢
          replace hd : (rdl b 48 57 10 48 2 n (skp b n 600 i) 600 (skp b n 600 i) 0).1 - skp b n 600 i = 1 := hd
          rw [hd] at h
          rw [show (10 : Int) ^ (min 1 2 : Int).toNat = 10 from by decide] at h
          show (rdl b 48 57 10 48 2 n (skp b n 600 i) 600 (skp b n 600 i) 0).2 ≤ 9
          omega
        · simp at hk
      · split at hk
        · simp at hk
        · split at hk <;> simp at hk
theorem tok_let {b : Int → Int} {n i : Int} (hk : (tok b n i).1 = 3) : 2 ≤ (tok b n i).2.1 ∧ (tok b n i).2.1 ≤ 6 := by
  unfold tok at hk ⊢
  split at hk
  · simp at hk
  · rename_i c0
    rw [if_neg c0]
    split at hk
    · split at hk <;> simp at hk
    · rename_i c1
      rw [if_neg c1]
      split at hk
      · split at hk <;> simp at hk
      · rename_i c2
        rw [if_neg c2]
        split at hk
        · rename_i c3
          rw [if_pos c3]
          show 2 ≤ lof (b (skp b n 600 i)) ∧ lof (b (skp b n 600 i)) ≤ 6
          have h2 : lof (b (skp b n 600 i)) = 2 ∨ lof (b (skp b n 600 i)) = 3 ∨ lof (b (skp b n 600 i)) = 4 ∨ lof (b (skp b n 600 i)) = 5 ∨ lof (b (skp b n 600 i)) = 6 ∨ lof (b (skp b n 600 i)) = -4 := by
            unfold lof
            repeat' split
            all_goals simp
          omega
        · split at hk <;> simp at hk
def PX (b : Int → Int) (n lo : Int) (R : PR) (s : Nat → Int) (a : Nat → Int → Int) (nm : Nat → Int64) (v : Int) : Prop := (s 13 ≠ 0 ∧ fl (s 13) ∧ R = .inl (s 13, s 14)) ∨ (∃ (S : PS) (i : Int), gd S ∧ S.2.2.1 = 0 ∧ S.2.2.2 = 0 ∧ 0 ≤ i ∧ lo ≤ i ∧ i ≤ n ∧ R = prN b n S i ∧ RL S s a nm ∧ RW (flat S.1) s a ∧ 0 ≤ (tok b n i).1 ∧ s 13 = 0 ∧ s 11 = (tok b n i).1 ∧ v = (tok b n i).2.1 ∧ s 10 = (tok b n i).2.2.1 ∧ s 9 = (tok b n i).2.2.2 ∧ BD b n i (s 6))
theorem NX_PX {b : Int → Int} {n i : Int} {S : PS} {s : Nat → Int} {a : Nat → Int → Int} {nm : Nat → Int64} {v : Int} (hn : n ≤ 600) (h0 : 0 ≤ i) (h1 : i ≤ n) (hb : ∀ j, 0 ≤ b j ∧ b j ≤ 255) (hg : gd S) (hk : 1 ≤ (tok b n i).1) (hz : ∀ S', pst S (tok b n i).1 (tok b n i).2.1 = some S' → S'.2.2.1 = 0 ∧ S'.2.2.2 = 0) (h : NX b n (pft S (tok b n i).1 (tok b n i).2.1, (tok b n i).2.2.1) (pst S (tok b n i).1 (tok b n i).2.1) (tok b n i).2.2.2 s a nm v) : PX b n (i + 1) (prN b n S i) s a nm v := by
  obtain ⟨t1, t2, t3, t4, t5, t6, _⟩ := tok_facts (b := b) h0 h1 hn
  have a5 := t5 (by omega)
  have a6 := t6 (by omega)
  cases hp : pst S (tok b n i).1 (tok b n i).2.1 with
  | none => rw [hp] at h; exact Or.inl ⟨h.1, h.2.1, by rw [h.2.2]; exact prN_none hk hp⟩
  | some S' =>
    rw [hp] at h
    obtain ⟨q1, q2, q3, q4⟩ := h
    obtain ⟨z1, z2⟩ := hz S' hp
    have hs := prN_step hn h0 h1 hk hp
    rcases q3 with ⟨e1, e2⟩ | ⟨e1, e2, e3, e4, e5, e6⟩
    · exact Or.inl ⟨by omega, ⟨by omega, by omega⟩, by rw [hs, e2.1, e2.2]; exact prN_bad e1⟩
    · exact Or.inr ⟨S', _, gd_pst hg (fun _ => (tok_val hb).1) tok_let hp, z1, z2, by omega, by omega, by omega, hs, q1, q2, e1, e2, e3, e4, e5, e6, q4⟩
theorem nmR_up {nm nm' : Nat → Int64} : ∀ {ns : List Int}, (∀ j, j < ns.length → nm' j = nm j) → nmR nm ns → nmR nm' ns
  | [], _, _ => trivial
  | x :: r, h, hn => ⟨by rw [h r.length (by simp)]; exact hn.1, nmR_up (fun j hj => h j (by simp; omega)) hn.2⟩
theorem nP_add {L : List Lev} {i : Int} : nP (pAdd L i) = nP L := by cases L <;> rfl
theorem sK_add {L : List Lev} {i : Int} : sK (pAdd L i) = sK L := by cases L <;> rfl
theorem sK_part {L : List Lev} : sK (pPart L) = sK L := by cases L <;> rfl
theorem RL_name {S : PS} {s s' : Nat → Int} {a a' : Nat → Int → Int} {nm : Nat → Int64} {v : Int} (hR : RL S s a nm) (hv : 0 ≤ v ∧ v ≤ 282429536481) (ho : s 21 ≠ 40) (h1 : s' 18 = s 18) (h2 : s' 20 = s 20 + 1) (h3 : s' 21 = s 21 + 1) (h7 : a' 7 = a 7) (h8 : a' 8 = a 8) (h9 : a' 9 = a 9) : RL (pAdd S.1 1, v :: S.2.1, 2, S.2.2.2 + 1) s' a' (vp_updL nm (s 20).toNat (lI v)) := by
  obtain ⟨g1, g2, g3, g4, g5, g6, g7, g8, g9, g10⟩ := RL_add (i := 1) (h := 0) hR
  replace g3 : s 20 = (S.2.1.length : Int) := g3
  replace g5 : s 21 = (S.2.1.length : Int) + nP (pAdd S.1 1) := g5
  replace g8 : sK (pAdd S.1 1) + S.2.2.2 = S.2.1.length := g8
  replace g9 : 0 ≤ S.2.2.2 := g9
  have e1 : (s 20).toNat = S.2.1.length := by omega
  refine ⟨by rw [h1]; exact g1, lvR_eq (fun j _ _ => by rw [h7, h8, h9]; exact ⟨rfl, rfl, rfl⟩) g2, ?_, ⟨?_, nmR_up (fun j hj => ?_) g4⟩, ?_, by omega, g7, ?_, by show 0 ≤ S.2.2.2 + 1; omega, ?_⟩
  · show s' 20 = ((S.2.1.length + 1 : Nat) : Int); omega
  · show vp_updL nm (s 20).toNat (lI v) S.2.1.length = lI v
    unfold vp_updL
    rw [if_pos e1.symm]
  · unfold vp_updL
    rw [if_neg (by rw [e1]; intro z; subst z; exact Nat.lt_irrefl _ hj)]
  · show s' 21 = ((S.2.1.length + 1 : Nat) : Int) + nP (pAdd S.1 1); omega
  · show sK (pAdd S.1 1) + (S.2.2.2 + 1) = ((S.2.1.length + 1 : Nat) : Int); omega
  · intro w hw
    rcases List.mem_cons.mp hw with h | h
    · rw [h]; exact hv
    · exact g10 w h
set_option maxHeartbeats 4000000 in
set_option maxRecDepth 100000 in
theorem M_readLambda_f {d : Nat} {A B : List va_E} {Q : Option Value → List va_E → Nat → Nat → Prop} {s0 : Nat → Int} {a0 : Nat → Int → Int} {RES : PR} {lo : Int} {s : Nat → Int} {v : Int} {a : Nat → Int → Int} {nm : Nat → Int64} {q : Int} (hA : A.length = 18) (k : ∀ s' v' a' nm', frP s0 a0 s' a' → (0 ≤ v' ∧ v' ≤ 282429536481) → PX (a0 3) (s0 4) lo RES s' a' nm' v' → Q none (mh A s' (lI v') a' nm' B) 0 0) (hfr : frP s0 a0 s a) (hv : 0 ≤ v ∧ v ≤ 282429536481) (h13 : s 13 ≠ 0) (h13b : fl (s 13)) (hR : RES = .inl (s 13, s 14)) : pm_E none (d + 2) pm_mm160 34 [(0, .ref 18), (1, .int (iI q))] [] (mh A s (lI v) a nm B) 0 0 Q := by
  refine pm_e_sim pm_a160_34 rfl ?_
  show pm_E _ _ _ 35 [(0, .ref 18), (1, .int (iI q))] [.ref 18] _ _ _ _
  refine pm_i_get pm_a160_35 rfl (mh_get (j := 0) hA rfl) rfl ?_
  show pm_E _ _ _ 38 [(0, .ref 18), (1, .int (iI q))] [.int (iI (s 13))] _ _ _ _
  refine pm_i_ne (t := 118) pm_a160_38 rfl ⟨by omega, by omega⟩ (fun h_1 => ?_) (fun h_1 => ?_)
  · skip
    show pm_E _ _ _ 118 [(0, .ref 18), (1, .int (iI q))] [] _ _ _ _
    refine pm_e_sim pm_a160_118 rfl ?_
    show pm_E _ _ _ 119 [(0, .ref 18), (1, .int (iI q))] [.ref 18] _ _ _ _
    refine pm_i_get pm_a160_119 rfl (mh_get (j := 0) hA rfl) rfl ?_
    show pm_E _ _ _ 122 [(0, .ref 18), (1, .int (iI q))] [.int (iI (s 13))] _ _ _ _
    refine pm_i_ne (t := 155) pm_a160_122 rfl ⟨by omega, by omega⟩ (fun h_2 => ?_) (fun h_2 => ?_)
    · skip
      show pm_E _ _ _ 155 [(0, .ref 18), (1, .int (iI q))] [] _ _ _ _
      refine pm_e_ret pm_a160_155 rfl rfl rfl rfl rfl rfl rfl rfl ?_
      exact k s v a nm hfr hv (Or.inl ⟨h13, h13b, hR⟩)
    · skip
      exfalso; omega
  · skip
    exfalso; omega
set_option maxHeartbeats 4000000 in
set_option maxRecDepth 100000 in
theorem M_readLambda_l {d : Nat} {A B : List va_E} {Q : Option Value → List va_E → Nat → Nat → Prop} {s0 : Nat → Int} {a0 : Nat → Int → Int} {RES : PR} {lo : Int} (hA : A.length = 18) (hb : ∀ j, 0 ≤ a0 3 j ∧ a0 3 j ≤ 255) (h4 : 0 ≤ s0 4) (h5 : s0 4 ≤ 600) (k : ∀ s' v' a' nm', frP s0 a0 s' a' → (0 ≤ v' ∧ v' ≤ 282429536481) → PX (a0 3) (s0 4) lo RES s' a' nm' v' → Q none (mh A s' (lI v') a' nm' B) 0 0) : ∀ (f : Nat) (q : Int) (S : PS) (i : Int) (s : Nat → Int) (v : Int) (a : Nat → Int → Int) (nm : Nat → Int64), gd S → frP s0 a0 s a → (0 ≤ v ∧ v ≤ 282429536481) → lo ≤ i → 0 ≤ i → i ≤ s0 4 → RES = prN (a0 3) (s0 4) S i → RL S s a nm → RW (flat S.1) s a → (0 ≤ (tok (a0 3) (s0 4) i).1 ∧ s 13 = 0 ∧ s 11 = (tok (a0 3) (s0 4) i).1 ∧ v = (tok (a0 3) (s0 4) i).2.1 ∧ s 10 = (tok (a0 3) (s0 4) i).2.2.1 ∧ s 9 = (tok (a0 3) (s0 4) i).2.2.2) → BD (a0 3) (s0 4) i (s 6) → ((S.2.2.1 = 1 ∧ (tok (a0 3) (s0 4) i).1 = 1) ∨ (S.2.2.1 = 2 ∧ 0 < S.2.2.2)) → q = S.2.2.2 → s0 4 - i < (f : Int) → pm_E none (d + 2) pm_mm160 34 [(0, .ref 18), (1, .int (iI q))] [] (mh A s (lI v) a nm B) 0 0 Q := by
  intro f
  induction f with
  | zero =>
    intro q S i s v a nm hgd hfr hv hlo hi0 hi1 hres hR hw htk hbd hh0 hq hf
    exfalso; omega
  | succ f ih =>
    intro q S i s v a nm hgd hfr hv hlo hi0 hi1 hres hR hw htk hbd hh0 hq hf
    obtain ⟨hk0, h13, e11, ev, e10, e9⟩ := htk
    have tf := tok_facts (b := a0 3) (n := s0 4) (i := i) hi0 hi1 h5
    have t5v := tf.2.2.2.2.1 (by omega)
    have t6v := tf.2.2.2.2.2.1
    have bt := BD_tok hi0 hi1 h5 hbd
    have hrl := RL_len hR
    have hw6 := hw.1
    have h21 := hR.2.2.2.2.2.1
    have hmm := hR.2.2.2.2.2.2.2.2.1
    have hh : S.2.2.1 = 1 ∨ S.2.2.1 = 2 := hh0.elim (fun z => Or.inl z.1) (fun z => Or.inr z.1)
    have hh1 : S.2.2.1 = 1 → (tok (a0 3) (s0 4) i).1 = 1 := fun z => hh0.elim (fun y => y.2) (fun y => by omega)
    have hh2 : S.2.2.1 = 2 → 0 < S.2.2.2 := fun z => hh0.elim (fun y => by omega) (fun y => y.2)
    refine pm_e_sim pm_a160_34 rfl ?_
    show pm_E _ _ _ 35 [(0, .ref 18), (1, .int (iI q))] [.ref 18] _ _ _ _
    refine pm_i_get pm_a160_35 rfl (mh_get (j := 0) hA rfl) rfl ?_
    show pm_E _ _ _ 38 [(0, .ref 18), (1, .int (iI q))] [.int (iI (s 13))] _ _ _ _
    refine pm_i_ne (t := 118) pm_a160_38 rfl ⟨by omega, by omega⟩ (fun h_1 => ?_) (fun h_1 => ?_)
    · skip
      exfalso; omega
    · skip
      show pm_E _ _ _ 41 [(0, .ref 18), (1, .int (iI q))] [] _ _ _ _
      refine pm_e_sim pm_a160_41 rfl ?_
      show pm_E _ _ _ 42 [(0, .ref 18), (1, .int (iI q))] [.ref 18] _ _ _ _
      refine pm_i_get pm_a160_42 rfl (mh_get (j := 0) hA rfl) rfl ?_
      show pm_E _ _ _ 45 [(0, .ref 18), (1, .int (iI q))] [.int (iI (s 11))] _ _ _ _
      refine pm_e_sim pm_a160_45 rfl ?_
      refine pm_e_top (y := iI 1) (by decide +kernel) ?_
      show pm_E _ _ _ 46 [(0, .ref 18), (1, .int (iI q))] [.int (iI 1), .int (iI (s 11))] _ _ _ _
      refine pm_c_ne (t := 118) pm_a160_46 rfl ⟨by omega, by omega⟩ ⟨by omega, by omega⟩ (fun h_2 => ?_) (fun h_2 => ?_)
      · skip
        show pm_E _ _ _ 118 [(0, .ref 18), (1, .int (iI q))] [] _ _ _ _
        refine pm_e_sim pm_a160_118 rfl ?_
        show pm_E _ _ _ 119 [(0, .ref 18), (1, .int (iI q))] [.ref 18] _ _ _ _
        refine pm_i_get pm_a160_119 rfl (mh_get (j := 0) hA rfl) rfl ?_
        show pm_E _ _ _ 122 [(0, .ref 18), (1, .int (iI q))] [.int (iI (s 13))] _ _ _ _
        refine pm_i_ne (t := 155) pm_a160_122 rfl ⟨by omega, by omega⟩ (fun h_3 => ?_) (fun h_3 => ?_)
        · skip
          exfalso; omega
        · skip
          show pm_E _ _ _ 125 [(0, .ref 18), (1, .int (iI q))] [] _ _ _ _
          refine pm_e_sim pm_a160_125 rfl ?_
          show pm_E _ _ _ 126 [(0, .ref 18), (1, .int (iI q))] [.ref 18] _ _ _ _
          refine pm_e_sim pm_a160_126 rfl ?_
          refine pm_e_top (y := iI 46) (by decide +kernel) ?_
          show pm_E _ _ _ 128 [(0, .ref 18), (1, .int (iI q))] [.int (iI 46), .ref 18] _ _ _ _
          refine pm_i_callv (k := 18) (T2 := pm_mm159) pm_a160_128 rfl rfl rfl (mh_get (j := 0) hA rfl) ⟨Nat.le_of_ble_eq_true rfl, Nat.le_of_ble_eq_true rfl, rfl, by decide +kernel⟩ ?_
          show pm_E none _ _ 0 [(0, .ref 18), (1, .int (iI 46))] [] _ _ _ _
          refine M_isSign hA (by decide) ⟨by omega, by omega⟩ ⟨by omega, by omega⟩ (fun h_4_ h_4 => ?_) (fun h_4 => ?_)
          · skip
            show pm_E _ _ _ 131 [(0, .ref 18), (1, .int (iI q))] [.int (iI 1)] _ _ _ _
            refine pm_e_iff pm_a160_131 rfl (by decide +kernel) ?_
            show pm_E _ _ _ 134 [(0, .ref 18), (1, .int (iI q))] [] _ _ _ _
            refine pm_e_sim pm_a160_134 rfl ?_
            show pm_E _ _ _ 135 [(0, .ref 18), (1, .int (iI q))] [.ref 18] _ _ _ _
            refine pm_e_sim pm_a160_135 rfl ?_
            show pm_E _ _ _ 136 [(0, .ref 18), (1, .int (iI q))] [.int (iI q), .ref 18] _ _ _ _
            refine pm_i_callv (k := 18) (T2 := pm_mm150) pm_a160_136 rfl rfl rfl (mh_get (j := 0) hA rfl) ⟨Nat.le_of_ble_eq_true rfl, Nat.le_of_ble_eq_true rfl, rfl, by decide +kernel⟩ ?_
            show pm_E none _ _ 0 [(0, .ref 18), (1, .int (iI q))] [] _ _ _ _
            have hm2 : 0 < S.2.2.2 := by
              rcases hh with z | z
              · exfalso; have := hh1 z; omega
              · exact hh2 z
            refine M_levelT (S := S) hA hR hw (Or.inr ⟨by omega, by omega⟩) (fun s1 a1 gS1 gA1 hR1 hw1 => ?_)
            have hR1 := hR1 (s 21) (by rw [if_neg (by omega)]; omega)
            have hR1 : RL ((q, 0, []) :: S.1, S.2.1, 0, 0) s1 a1 nm := RL_fr hR1 rfl rfl (by show s1 21 = s 21; exact gS1 21 (by omega)) rfl rfl rfl
            show pm_E _ _ _ 139 [(0, .ref 18), (1, .int (iI q))] [] _ _ _ _
            refine pm_e_sim pm_a160_139 rfl ?_
            show pm_E _ _ _ 140 [(0, .ref 18), (1, .int (iI q))] [.ref 18] _ _ _ _
            refine pm_i_callv (k := 18) (T2 := pm_mm151) pm_a160_140 rfl rfl rfl (mh_get (j := 0) hA rfl) ⟨Nat.le_of_ble_eq_true rfl, Nat.le_of_ble_eq_true rfl, rfl, by decide +kernel⟩ ?_
            show pm_E none _ _ 0 [(0, .ref 18)] [] _ _ _ _
            have f3 : a1 3 = a0 3 := by rw [gA1 3 (by omega) (by omega) (by omega)]; exact hfr.2 3 (by omega) (by omega) (by omega) (by omega)
            have f4 : s1 4 = s0 4 := by rw [gS1 4 (by omega)]; exact hfr.1 4 (by omega) (by omega) (by omega) (by omega) (by omega) (by omega) (by omega) (by omega) (by omega)
            have f9 : s1 9 = (tok (a0 3) (s0 4) i).2.2.2 := by rw [gS1 9 (by omega)]; exact e9
            refine M_nextT hA (by rw [f3]; exact hb) (by rw [gS1 13 (by omega)]; exact h13) (by omega) (by omega) (by omega) (by omega) (fun s9 v9 g9 t9 b9 => ?_)
            rw [f3, f4, f9] at t9
            have hps : pst S (tok (a0 3) (s0 4) i).1 (tok (a0 3) (s0 4) i).2.1 = some ((q, 0, []) :: S.1, S.2.1, 0, 0) := by
              unfold pst
              rw [if_neg (by omega), if_neg (by omega), if_pos ⟨hh.elim (fun z => by exfalso; have := hh1 z; omega) id, by omega, by omega⟩, ← hq]
            have hst := prN_step (b := a0 3) (n := s0 4) (by omega) (by omega) (by omega) (by omega) hps
            have hf9 : frP s0 a0 s9 a1 := ⟨fun j q1 q2 q3 q4 q5 q6 q7 q8 q9 => by rw [g9 j q2 q3 q4 q5 q6, gS1 j q7]; exact hfr.1 j q1 q2 q3 q4 q5 q6 q7 q8 q9, fun j q1 q2 q3 q4 => by rw [gA1 j q2 q3 q4]; exact hfr.2 j q1 q2 q3 q4⟩
            show pm_E _ _ _ 143 [(0, .ref 18), (1, .int (iI q))] [] _ _ _ _
            refine pm_e_goto pm_a160_143 rfl ?_
            show pm_E _ _ _ 155 [(0, .ref 18), (1, .int (iI q))] [] _ _ _ _
            refine pm_e_ret pm_a160_155 rfl rfl rfl rfl rfl rfl rfl rfl ?_
            refine k s9 v9 a1 nm hf9 b9 ?_
            rcases t9 with ⟨z1, z2⟩ | ⟨z1, z2, z3, z4, z5, z6⟩
            · exact Or.inl ⟨by omega, ⟨by omega, by omega⟩, by rw [hres, hst, z2.1, z2.2]; exact prN_bad z1⟩
            · have z66 : s9 6 = s 6 := by rw [g9 6 (by omega) (by omega) (by omega) (by omega) (by omega)]; exact gS1 6 (by omega)
              exact Or.inr ⟨((q, 0, []) :: S.1, S.2.1, 0, 0), (tok (a0 3) (s0 4) i).2.2.2, gd_pst hgd (fun _ => (tok_val hb).1) tok_let hps, rfl, rfl, by omega, by omega, by omega, by rw [hres, hst], RL_fr hR1 (g9 18 (by omega) (by omega) (by omega) (by omega) (by omega)) (g9 20 (by omega) (by omega) (by omega) (by omega) (by omega)) (g9 21 (by omega) (by omega) (by omega) (by omega) (by omega)) rfl rfl rfl, ⟨by rw [z66, ← hw1.1]; exact (gS1 6 (by omega)).symm, hw1.2.1, hw1.2.2⟩, z1, z2, z3, z4, z5, z6, by have := bt.1; omega, fun _ _ _ => by have := bt.1; omega⟩
          · skip
            show pm_E _ _ _ 131 [(0, .ref 18), (1, .int (iI q))] [.int (iI 0)] _ _ _ _
            refine pm_e_ift pm_a160_131 rfl (by decide +kernel) ?_
            show pm_E _ _ _ 146 [(0, .ref 18), (1, .int (iI q))] [] _ _ _ _
            refine pm_e_sim pm_a160_146 rfl ?_
            show pm_E _ _ _ 147 [(0, .ref 18), (1, .int (iI q))] [.ref 18] _ _ _ _
            refine pm_e_sim pm_a160_147 rfl ?_
            refine pm_e_top (y := iI 2) (by decide +kernel) ?_
            show pm_E _ _ _ 148 [(0, .ref 18), (1, .int (iI q))] [.int (iI 2), .ref 18] _ _ _ _
            refine pm_e_sim pm_a160_148 rfl ?_
            show pm_E _ _ _ 149 [(0, .ref 18), (1, .int (iI q))] [.ref 18, .int (iI 2), .ref 18] _ _ _ _
            refine pm_i_get pm_a160_149 rfl (mh_get (j := 0) hA rfl) rfl ?_
            show pm_E _ _ _ 152 [(0, .ref 18), (1, .int (iI q))] [.int (iI (s 10)), .int (iI 2), .ref 18] _ _ _ _
            refine pm_i_callv (k := 18) (T2 := pm_mm153) pm_a160_152 rfl rfl rfl (mh_get (j := 0) hA rfl) ⟨Nat.le_of_ble_eq_true rfl, Nat.le_of_ble_eq_true rfl, rfl, by decide +kernel⟩ ?_
            show pm_E none _ _ 0 [(0, .ref 18), (1, .int (iI 2)), (2, .int (iI (s 10)))] [] _ _ _ _
            refine M_fails hA (by rw [h13]; decide) (fun _ => ?_) (fun z => absurd h13 z)
            show pm_E _ _ _ 155 [(0, .ref 18), (1, .int (iI q))] [] _ _ _ _
            refine pm_e_ret pm_a160_155 rfl rfl rfl rfl rfl rfl rfl rfl ?_
            refine k _ v a nm ⟨fun j q1 q2 q3 q4 q5 q6 q7 q8 q9 => by simp [updS, q5, q6]; exact hfr.1 j q1 q2 q3 q4 q5 q6 q7 q8 q9, hfr.2⟩ hv (Or.inl ⟨by show (2 : Int) ≠ 0; decide, by show fl 2; decide, ?_⟩)
            show RES = .inl ((2 : Int), s 10)
            rw [hres, e10]
            by_cases hz : (tok (a0 3) (s0 4) i).1 = 0
            · rw [prN_end hz]; refine pEn_n ?_; unfold pEnd; rw [if_neg (by omega)]
            · refine prN_nc (by omega) ?_ (pft_h (by omega) (by omega))
              unfold pst
              rw [if_neg (by omega), if_neg (by omega), if_neg (by omega)]
      · skip
        show pm_E _ _ _ 49 [(0, .ref 18), (1, .int (iI q))] [] _ _ _ _
        refine pm_e_sim pm_a160_49 rfl ?_
        show pm_E _ _ _ 50 [(0, .ref 18), (1, .int (iI q))] [.ref 18] _ _ _ _
        refine pm_i_get pm_a160_50 rfl (mh_get (j := 0) hA rfl) rfl ?_
        show pm_E _ _ _ 53 [(0, .ref 18), (1, .int (iI q))] [.int (iI (s 21))] _ _ _ _
        refine pm_e_sim pm_a160_53 rfl ?_
        refine pm_e_top (y := iI 40) (by decide +kernel) ?_
        show pm_E _ _ _ 55 [(0, .ref 18), (1, .int (iI q))] [.int (iI 40), .int (iI (s 21))] _ _ _ _
        refine pm_c_ne (t := 70) pm_a160_55 rfl ⟨by omega, by omega⟩ ⟨by omega, by omega⟩ (fun h_5 => ?_) (fun h_5 => ?_)
        · skip
          show pm_E _ _ _ 70 [(0, .ref 18), (1, .int (iI q))] [] _ _ _ _
          refine pm_e_sim pm_a160_70 rfl ?_
          show pm_E _ _ _ 71 [(0, .ref 18), (1, .int (iI q))] [.ref 18] _ _ _ _
          refine pm_e_sim pm_a160_71 rfl ?_
          show pm_E _ _ _ 72 [(0, .ref 18), (1, .int (iI q))] [.ref 18, .ref 18] _ _ _ _
          refine pm_i_get pm_a160_72 rfl (mh_get (j := 0) hA rfl) rfl ?_
          show pm_E _ _ _ 75 [(0, .ref 18), (1, .int (iI q))] [.int (iI (s 21)), .ref 18] _ _ _ _
          refine pm_e_sim pm_a160_75 rfl ?_
          refine pm_e_top (y := iI 1) (by decide +kernel) ?_
          show pm_E _ _ _ 76 [(0, .ref 18), (1, .int (iI q))] [.int (iI 1), .int (iI (s 21)), .ref 18] _ _ _ _
          refine pm_e_sim pm_a160_76 rfl ?_
          refine pm_e_top (y := iI (s 21 + 1)) (iI_add _ _) ?_
          show pm_E _ _ _ 77 [(0, .ref 18), (1, .int (iI q))] [.int (iI (s 21 + 1)), .ref 18] _ _ _ _
          refine pm_i_put pm_a160_77 rfl (mh_get (j := 0) hA rfl) rfl (Nat.le_of_ble_eq_true rfl) (Or.inl rfl) (mw_21 hA _) ?_
          show pm_E _ _ _ 80 [(0, .ref 18), (1, .int (iI q))] [] _ _ _ _
          refine pm_e_sim pm_a160_80 rfl ?_
          show pm_E _ _ _ 81 [(0, .ref 18), (1, .int (iI q))] [.ref 18] _ _ _ _
          refine pm_i_get pm_a160_81 rfl (mh_get (j := 0) hA rfl) rfl ?_
          show pm_E _ _ _ 84 [(0, .ref 18), (1, .int (iI q))] [.ref 28] _ _ _ _
          refine pm_e_sim pm_a160_84 rfl ?_
          show pm_E _ _ _ 85 [(0, .ref 18), (1, .int (iI q))] [.ref 18, .ref 28] _ _ _ _
          refine pm_i_get pm_a160_85 rfl (mh_get (j := 0) hA rfl) rfl ?_
          show pm_E _ _ _ 88 [(0, .ref 18), (1, .int (iI q))] [.int (iI (s 20)), .ref 28] _ _ _ _
          refine pm_e_sim pm_a160_88 rfl ?_
          show pm_E _ _ _ 89 [(0, .ref 18), (1, .int (iI q))] [.ref 18, .int (iI (s 20)), .ref 28] _ _ _ _
          refine pm_i_get pm_a160_89 rfl (mh_get (j := 0) hA rfl) rfl ?_
          show pm_E _ _ _ 92 [(0, .ref 18), (1, .int (iI q))] [.long (lI v), .int (iI (s 20)), .ref 28] _ _ _ _
          refine pm_l_ast pm_a160_92 (mh_get (j := 10) hA rfl) (by omega) (by omega) ⟨by omega, by omega⟩ (ma_10 hA _) ?_
          show pm_E _ _ _ 93 [(0, .ref 18), (1, .int (iI q))] [] _ _ _ _
          refine pm_e_sim pm_a160_93 rfl ?_
          show pm_E _ _ _ 94 [(0, .ref 18), (1, .int (iI q))] [.ref 18] _ _ _ _
          refine pm_e_sim pm_a160_94 rfl ?_
          show pm_E _ _ _ 95 [(0, .ref 18), (1, .int (iI q))] [.ref 18, .ref 18] _ _ _ _
          refine pm_i_get pm_a160_95 rfl (mh_get (j := 0) hA rfl) rfl ?_
          show pm_E _ _ _ 98 [(0, .ref 18), (1, .int (iI q))] [.int (iI (s 20)), .ref 18] _ _ _ _
          refine pm_e_sim pm_a160_98 rfl ?_
          refine pm_e_top (y := iI 1) (by decide +kernel) ?_
          show pm_E _ _ _ 99 [(0, .ref 18), (1, .int (iI q))] [.int (iI 1), .int (iI (s 20)), .ref 18] _ _ _ _
          refine pm_e_sim pm_a160_99 rfl ?_
          refine pm_e_top (y := iI (s 20 + 1)) (iI_add _ _) ?_
          show pm_E _ _ _ 100 [(0, .ref 18), (1, .int (iI q))] [.int (iI (s 20 + 1)), .ref 18] _ _ _ _
          refine pm_i_put pm_a160_100 rfl (mh_get (j := 0) hA rfl) rfl (Nat.le_of_ble_eq_true rfl) (Or.inl rfl) (mw_20 hA _) ?_
          show pm_E _ _ _ 103 [(0, .ref 18), (1, .int (iI q))] [] _ _ _ _
          refine pm_e_inc (y := iI (q + 1)) pm_a160_103 rfl (iI_add _ _) (by decide +kernel) rfl ?_
          show pm_E _ _ _ 106 [(0, .ref 18), (1, .int (iI (q + 1)))] [] _ _ _ _
          refine pm_e_sim pm_a160_106 rfl ?_
          show pm_E _ _ _ 107 [(0, .ref 18), (1, .int (iI (q + 1)))] [.ref 18] _ _ _ _
          refine pm_e_sim pm_a160_107 rfl ?_
          refine pm_e_top (y := iI 1) (by decide +kernel) ?_
          show pm_E _ _ _ 108 [(0, .ref 18), (1, .int (iI (q + 1)))] [.int (iI 1), .ref 18] _ _ _ _
          refine pm_i_callv (k := 18) (T2 := pm_mm157) pm_a160_108 rfl rfl rfl (mh_get (j := 0) hA rfl) ⟨Nat.le_of_ble_eq_true rfl, Nat.le_of_ble_eq_true rfl, rfl, by decide +kernel⟩ ?_
          show pm_E none _ _ 0 [(0, .ref 18), (1, .int (iI 1))] [] _ _ _ _
          have hwx : RW (flat S.1) (updS (updS s 21 (s 21 + 1)) 20 (s 20 + 1)) a := hw
          refine M_layT hA hwx (show s 6 < 12000 by omega) (by decide) (fun s1 a1 gS1 gA1 hw1 u1 => ?_)
          have hfl : flat S.1 ++ [1] = flat (pAdd S.1 1) := by rw [flat_add (wfL_ne hR.2.2.2.2.2.2.1), ex1_cell (by omega) (by omega)]
          rw [hfl] at hw1
          have hR1 := RL_name (s' := s1) (a' := a1) hR hv (by omega) (gS1 18 (by omega)) (gS1 20 (by omega)) (gS1 21 (by omega)) (gA1 7 (by omega)) (gA1 8 (by omega)) (gA1 9 (by omega))
          show pm_E _ _ _ 111 [(0, .ref 18), (1, .int (iI (q + 1)))] [] _ _ _ _
          refine pm_e_sim pm_a160_111 rfl ?_
          show pm_E _ _ _ 112 [(0, .ref 18), (1, .int (iI (q + 1)))] [.ref 18] _ _ _ _
          refine pm_i_callv (k := 18) (T2 := pm_mm151) pm_a160_112 rfl rfl rfl (mh_get (j := 0) hA rfl) ⟨Nat.le_of_ble_eq_true rfl, Nat.le_of_ble_eq_true rfl, rfl, by decide +kernel⟩ ?_
          show pm_E none _ _ 0 [(0, .ref 18)] [] _ _ _ _
          have f3 : a1 3 = a0 3 := by rw [gA1 3 (by omega)]; exact hfr.2 3 (by omega) (by omega) (by omega) (by omega)
          have f4 : s1 4 = s0 4 := by rw [gS1 4 (by omega)]; exact hfr.1 4 (by omega) (by omega) (by omega) (by omega) (by omega) (by omega) (by omega) (by omega) (by omega)
          have f9 : s1 9 = (tok (a0 3) (s0 4) i).2.2.2 := by rw [gS1 9 (by omega)]; exact e9
          refine M_nextT hA (by rw [f3]; exact hb) (by rw [gS1 13 (by omega)]; exact h13) (by omega) (by omega) (by omega) (by omega) (fun s9 v9 g9 t9 b9 => ?_)
          rw [f3, f4, f9] at t9
          have hps : pst S (tok (a0 3) (s0 4) i).1 (tok (a0 3) (s0 4) i).2.1 = some (pAdd S.1 1, v :: S.2.1, 2, S.2.2.2 + 1) := by
            unfold pst
            rw [if_neg (by omega), if_pos (by omega), if_neg (by rw [← hR.2.2.2.2.1]; omega), ← ev]
          have hst := prN_step (b := a0 3) (n := s0 4) (by omega) (by omega) (by omega) (by omega) hps
          have hf9 : frP s0 a0 s9 a1 := ⟨fun j q1 q2 q3 q4 q5 q6 q7 q8 q9 => by rw [g9 j q2 q3 q4 q5 q6, gS1 j q1]; simp [updS, q8, q9]; exact hfr.1 j q1 q2 q3 q4 q5 q6 q7 q8 q9, fun j q1 q2 q3 q4 => by rw [gA1 j q1]; exact hfr.2 j q1 q2 q3 q4⟩
          show pm_E _ _ _ 115 [(0, .ref 18), (1, .int (iI (q + 1)))] [] _ _ _ _
          refine pm_e_goto pm_a160_115 rfl ?_
          show pm_E _ _ _ 34 [(0, .ref 18), (1, .int (iI (q + 1)))] [] _ _ _ _
          rcases t9 with ⟨z1, z2⟩ | ⟨z1, z2, z3, z4, z5, z6⟩
          · exact M_readLambda_f hA k hf9 b9 (by omega) ⟨by omega, by omega⟩ (by rw [hres, hst, z2.1, z2.2]; exact prN_bad z1)
          · have z66 : s9 6 = s1 6 := g9 6 (by omega) (by omega) (by omega) (by omega) (by omega)
            have u16 : s1 6 = s 6 + 1 := u1
            exact ih (q + 1) (pAdd S.1 1, v :: S.2.1, 2, S.2.2.2 + 1) (tok (a0 3) (s0 4) i).2.2.2 s9 v9 a1 _ (gd_pst hgd (fun _ => (tok_val hb).1) tok_let hps) hf9 b9 (by omega) (by omega) (by omega) (by rw [hres, hst]) (RL_fr hR1 (g9 18 (by omega) (by omega) (by omega) (by omega) (by omega)) (g9 20 (by omega) (by omega) (by omega) (by omega) (by omega)) (g9 21 (by omega) (by omega) (by omega) (by omega) (by omega)) rfl rfl rfl) ⟨by rw [z66]; exact hw1.1, hw1.2.1, hw1.2.2⟩ ⟨z1, z2, z3, z4, z5, z6⟩ ⟨by have := bt.1; omega, fun _ _ _ => by have := bt.1; omega⟩ (Or.inr ⟨rfl, by show 0 < S.2.2.2 + 1; omega⟩) (by show q + 1 = S.2.2.2 + 1; omega) (by omega)
        · skip
          show pm_E _ _ _ 58 [(0, .ref 18), (1, .int (iI q))] [] _ _ _ _
          refine pm_e_sim pm_a160_58 rfl ?_
          show pm_E _ _ _ 59 [(0, .ref 18), (1, .int (iI q))] [.ref 18] _ _ _ _
          refine pm_e_sim pm_a160_59 rfl ?_
          refine pm_e_top (y := iI 4) (by decide +kernel) ?_
          show pm_E _ _ _ 60 [(0, .ref 18), (1, .int (iI q))] [.int (iI 4), .ref 18] _ _ _ _
          refine pm_e_sim pm_a160_60 rfl ?_
          show pm_E _ _ _ 61 [(0, .ref 18), (1, .int (iI q))] [.ref 18, .int (iI 4), .ref 18] _ _ _ _
          refine pm_i_get pm_a160_61 rfl (mh_get (j := 0) hA rfl) rfl ?_
          show pm_E _ _ _ 64 [(0, .ref 18), (1, .int (iI q))] [.int (iI (s 10)), .int (iI 4), .ref 18] _ _ _ _
          refine pm_i_callv (k := 18) (T2 := pm_mm153) pm_a160_64 rfl rfl rfl (mh_get (j := 0) hA rfl) ⟨Nat.le_of_ble_eq_true rfl, Nat.le_of_ble_eq_true rfl, rfl, by decide +kernel⟩ ?_
          show pm_E none _ _ 0 [(0, .ref 18), (1, .int (iI 4)), (2, .int (iI (s 10)))] [] _ _ _ _
          refine M_fails hA (by rw [h13]; decide) (fun _ => ?_) (fun z => absurd h13 z)
          show pm_E _ _ _ 67 [(0, .ref 18), (1, .int (iI q))] [] _ _ _ _
          refine pm_e_goto pm_a160_67 rfl ?_
          show pm_E _ _ _ 34 [(0, .ref 18), (1, .int (iI q))] [] _ _ _ _
          have hps : pst S (tok (a0 3) (s0 4) i).1 (tok (a0 3) (s0 4) i).2.1 = none := by
            unfold pst
            rw [if_neg (by omega), if_pos (by omega), if_pos (by rw [← hR.2.2.2.2.1]; omega)]
          exact M_readLambda_f hA k ⟨fun j q1 q2 q3 q4 q5 q6 q7 q8 q9 => by simp [updS, q5, q6]; exact hfr.1 j q1 q2 q3 q4 q5 q6 q7 q8 q9, hfr.2⟩ hv (by show (4 : Int) ≠ 0; decide) (by show fl 4; decide) (by show RES = .inl ((4 : Int), s 10); rw [hres, e10]; exact prN_nc (by omega) hps (pft_h1 (by omega) (by omega)))
set_option maxHeartbeats 4000000 in
set_option maxRecDepth 100000 in
theorem M_readLambda {d : Nat} {A B : List va_E} {s : Nat → Int} {v : Int} {a : Nat → Int → Int} {nm : Nat → Int64} {Q : Option Value → List va_E → Nat → Nat → Prop} {S : PS} {i : Int} (hA : A.length = 18) (hb : ∀ j, 0 ≤ a 3 j ∧ a 3 j ≤ 255) (h4 : 0 ≤ s 4) (h5 : s 4 ≤ 600) (hi0 : 0 ≤ i) (hi1 : i ≤ s 4) (hR : RL S s a nm) (hw : RW (flat S.1) s a) (hh : S.2.2.1 = 0) (hm : S.2.2.2 = 0) (h13 : s 13 = 0) (e9 : s 9 = (tok (a 3) (s 4) i).2.2.2) (e10 : s 10 = (tok (a 3) (s 4) i).2.2.1) (ev : v = (tok (a 3) (s 4) i).2.1) (hbd : BD (a 3) (s 4) i (s 6)) (hk : (tok (a 3) (s 4) i).1 = 4) (hv : v = 92) (hgd : gd S) (k : ∀ s' v' a' nm', frP s a s' a' → (0 ≤ v' ∧ v' ≤ 282429536481) → PX (a 3) (s 4) (i + 1) (prN (a 3) (s 4) S i) s' a' nm' v' → Q none (mh A s' (lI v') a' nm' B) 0 0) : pm_E none (d + 2) pm_mm160 0 [(0, .ref 18)] [] (mh A s (lI v) a nm B) 0 0 Q := by
  have tf := tok_facts (b := a 3) (n := s 4) (i := i) hi0 hi1 h5
  have tv := tok_val (b := a 3) (n := s 4) (i := i) hb
  have bt := BD_tok hi0 hi1 h5 hbd
  have hw6 := hw.1
  have t6v := tf.2.2.2.2.2.1 (by omega)
  have t5v := tf.2.2.2.2.1 (by omega)
  have hrl := RL_len hR
  refine pm_e_sim pm_a160_0 rfl ?_
  show pm_E _ _ _ 1 [(0, .ref 18)] [.ref 18] _ _ _ _
  refine pm_i_callv (k := 18) (T2 := pm_mm156) pm_a160_1 rfl rfl rfl (mh_get (j := 0) hA rfl) ⟨Nat.le_of_ble_eq_true rfl, Nat.le_of_ble_eq_true rfl, rfl, by decide +kernel⟩ ?_
  show pm_E none _ _ 0 [(0, .ref 18)] [] _ _ _ _
  refine M_partT hA hR hw (by omega) (fun s1 a1 gS1 gA1 hR1 hw1 u1 u2 => ?_)
  show pm_E _ _ _ 4 [(0, .ref 18)] [] _ _ _ _
  refine pm_e_sim pm_a160_4 rfl ?_
  show pm_E _ _ _ 5 [(0, .ref 18)] [.ref 18] _ _ _ _
  refine pm_i_callv (k := 18) (T2 := pm_mm151) pm_a160_5 rfl rfl rfl (mh_get (j := 0) hA rfl) ⟨Nat.le_of_ble_eq_true rfl, Nat.le_of_ble_eq_true rfl, rfl, by decide +kernel⟩ ?_
  show pm_E none _ _ 0 [(0, .ref 18)] [] _ _ _ _
  have f3 : a1 3 = a 3 := gA1 3 (by omega) (by omega)
  have f4 : s1 4 = s 4 := gS1 4 (by omega)
  have f9 : s1 9 = s 9 := gS1 9 (by omega)
  refine M_nextT hA (by rw [f3]; exact hb) (by rw [gS1 13 (by omega)]; exact h13) (by omega) (by omega) (by omega) (by omega) (fun s9 v9 g9 t9 b9 => ?_)
  rw [f3, f4, f9, e9] at t9
  have hps : pst S (tok (a 3) (s 4) i).1 (tok (a 3) (s 4) i).2.1 = some (pPart S.1, S.2.1, 1, 0) := by
    unfold pst
    rw [if_pos hh, if_neg (by omega), if_neg (by omega), if_neg (by omega), if_neg (by omega), if_pos ⟨by omega, by omega⟩]
  have hst := prN_step (b := a 3) (n := s 4) (by omega) (by omega) (by omega) (by omega) hps
  have hf9 : frP s a s9 a1 := ⟨fun j q1 q2 q3 q4 q5 q6 q7 q8 q9 => by rw [g9 j q2 q3 q4 q5 q6]; exact gS1 j q1, fun j q1 q2 q3 q4 => gA1 j q1 q3⟩
  have hR9 : RL (pPart S.1, S.2.1, 1, 0) s9 a1 nm := by
    have := RL_fr hR1 (g9 18 (by omega) (by omega) (by omega) (by omega) (by omega)) (g9 20 (by omega) (by omega) (by omega) (by omega) (by omega)) (g9 21 (by omega) (by omega) (by omega) (by omega) (by omega)) rfl rfl rfl
    obtain ⟨x1, x2, x3, x4, x5, x6, x7, x8, x9⟩ := this
    refine ⟨x1, x2, x3, x4, x5, x6, x7, ?_, Int.le_refl 0, x9.2⟩
    have x8 : sK (pPart S.1) + S.2.2.2 = S.2.1.length := x8
    show sK (pPart S.1) + 0 = S.2.1.length
    omega
  have z66 : s9 6 = s1 6 := g9 6 (by omega) (by omega) (by omega) (by omega) (by omega)
  rcases t9 with ⟨z1, z2⟩ | ⟨z1, z2, z3, z4, z5, z6⟩
  · skip
    show pm_E _ _ _ 8 [(0, .ref 18)] [] _ _ _ _
    refine pm_e_sim pm_a160_8 rfl ?_
    refine pm_e_top (y := iI 0) (by decide +kernel) ?_
    show pm_E _ _ _ 9 [(0, .ref 18)] [.int (iI 0)] _ _ _ _
    refine pm_e_sim pm_a160_9 rfl ?_
    show pm_E _ _ _ 10 [(0, .ref 18), (1, .int (iI 0))] [] _ _ _ _
    refine pm_e_sim pm_a160_10 rfl ?_
    show pm_E _ _ _ 11 [(0, .ref 18), (1, .int (iI 0))] [.ref 18] _ _ _ _
    refine pm_i_get pm_a160_11 rfl (mh_get (j := 0) hA rfl) rfl ?_
    show pm_E _ _ _ 14 [(0, .ref 18), (1, .int (iI 0))] [.int (iI (s9 13))] _ _ _ _
    refine pm_i_ne (t := 34) pm_a160_14 rfl ⟨by omega, by omega⟩ (fun h_1 => ?_) (fun h_1 => ?_)
    · skip
      show pm_E _ _ _ 34 [(0, .ref 18), (1, .int (iI 0))] [] _ _ _ _
      exact M_readLambda_f hA k hf9 b9 (by omega) ⟨by omega, by omega⟩ (by rw [hst, z2.1, z2.2]; exact prN_bad z1)
    · skip
      exfalso; omega
  · skip
    have t9f := tok_facts (b := a 3) (n := s 4) (i := (tok (a 3) (s 4) i).2.2.2) (by omega) (by omega) h5
    show pm_E _ _ _ 8 [(0, .ref 18)] [] _ _ _ _
    refine pm_e_sim pm_a160_8 rfl ?_
    refine pm_e_top (y := iI 0) (by decide +kernel) ?_
    show pm_E _ _ _ 9 [(0, .ref 18)] [.int (iI 0)] _ _ _ _
    refine pm_e_sim pm_a160_9 rfl ?_
    show pm_E _ _ _ 10 [(0, .ref 18), (1, .int (iI 0))] [] _ _ _ _
    refine pm_e_sim pm_a160_10 rfl ?_
    show pm_E _ _ _ 11 [(0, .ref 18), (1, .int (iI 0))] [.ref 18] _ _ _ _
    refine pm_i_get pm_a160_11 rfl (mh_get (j := 0) hA rfl) rfl ?_
    show pm_E _ _ _ 14 [(0, .ref 18), (1, .int (iI 0))] [.int (iI (s9 13))] _ _ _ _
    refine pm_i_ne (t := 34) pm_a160_14 rfl ⟨by omega, by omega⟩ (fun h_2 => ?_) (fun h_2 => ?_)
    · skip
      exfalso; omega
    · skip
      show pm_E _ _ _ 17 [(0, .ref 18), (1, .int (iI 0))] [] _ _ _ _
      refine pm_e_sim pm_a160_17 rfl ?_
      show pm_E _ _ _ 18 [(0, .ref 18), (1, .int (iI 0))] [.ref 18] _ _ _ _
      refine pm_i_get pm_a160_18 rfl (mh_get (j := 0) hA rfl) rfl ?_
      show pm_E _ _ _ 21 [(0, .ref 18), (1, .int (iI 0))] [.int (iI (s9 11))] _ _ _ _
      refine pm_e_sim pm_a160_21 rfl ?_
      refine pm_e_top (y := iI 1) (by decide +kernel) ?_
      show pm_E _ _ _ 22 [(0, .ref 18), (1, .int (iI 0))] [.int (iI 1), .int (iI (s9 11))] _ _ _ _
      refine pm_c_eq (t := 34) pm_a160_22 rfl ⟨by omega, by omega⟩ ⟨by omega, by omega⟩ (fun h_3 => ?_) (fun h_3 => ?_)
      · skip
        show pm_E _ _ _ 34 [(0, .ref 18), (1, .int (iI 0))] [] _ _ _ _
        exact M_readLambda_l hA hb h4 h5 k (s 4 + 1).toNat 0 (pPart S.1, S.2.1, 1, 0) (tok (a 3) (s 4) i).2.2.2 s9 v9 a1 nm (gd_pst hgd (fun _ => (tok_val hb).1) tok_let hps) hf9 b9 (by omega) (by omega) (by omega) hst hR9 ⟨by rw [z66]; exact hw1.1, hw1.2.1, hw1.2.2⟩ ⟨z1, z2, z3, z4, z5, z6⟩ ⟨by have := bt.1; omega, fun _ _ _ => by have := bt.1; omega⟩ (Or.inl ⟨rfl, by omega⟩) rfl (by omega)
      · skip
        show pm_E _ _ _ 25 [(0, .ref 18), (1, .int (iI 0))] [] _ _ _ _
        refine pm_e_sim pm_a160_25 rfl ?_
        show pm_E _ _ _ 26 [(0, .ref 18), (1, .int (iI 0))] [.ref 18] _ _ _ _
        refine pm_e_sim pm_a160_26 rfl ?_
        refine pm_e_top (y := iI 2) (by decide +kernel) ?_
        show pm_E _ _ _ 27 [(0, .ref 18), (1, .int (iI 0))] [.int (iI 2), .ref 18] _ _ _ _
        refine pm_e_sim pm_a160_27 rfl ?_
        show pm_E _ _ _ 28 [(0, .ref 18), (1, .int (iI 0))] [.ref 18, .int (iI 2), .ref 18] _ _ _ _
        refine pm_i_get pm_a160_28 rfl (mh_get (j := 0) hA rfl) rfl ?_
        show pm_E _ _ _ 31 [(0, .ref 18), (1, .int (iI 0))] [.int (iI (s9 10)), .int (iI 2), .ref 18] _ _ _ _
        refine pm_i_callv (k := 18) (T2 := pm_mm153) pm_a160_31 rfl rfl rfl (mh_get (j := 0) hA rfl) ⟨Nat.le_of_ble_eq_true rfl, Nat.le_of_ble_eq_true rfl, rfl, by decide +kernel⟩ ?_
        show pm_E none _ _ 0 [(0, .ref 18), (1, .int (iI 2)), (2, .int (iI (s9 10)))] [] _ _ _ _
        refine M_fails hA (by rw [z2]; decide) (fun _ => ?_) (fun z => absurd z2 z)
        show pm_E _ _ _ 34 [(0, .ref 18), (1, .int (iI 0))] [] _ _ _ _
        refine M_readLambda_f hA k ⟨fun j q1 q2 q3 q4 q5 q6 q7 q8 q9 => by simp [updS, q5, q6]; exact hf9.1 j q1 q2 q3 q4 q5 q6 q7 q8 q9, hf9.2⟩ b9 (by show (2 : Int) ≠ 0; decide) (by show fl 2; decide) ?_
        show _ = (Sum.inl ((2 : Int), s9 10) : PR)
        rw [hst, z5]
        by_cases hz : (tok (a 3) (s 4) (tok (a 3) (s 4) i).2.2.2).1 = 0
        · rw [prN_end hz]; refine pEn_n ?_; unfold pEnd; rw [if_neg (by show ¬ (1 : Int) = 0; decide)]
        · refine prN_nc (by omega) ?_ (pft_h (by show ¬ (1 : Int) = 0; decide) (by omega))
          unfold pst
          rw [if_neg (by show ¬ (1 : Int) = 0; decide), if_neg (by omega), if_neg (by intro z; have h9 : (1 : Int) = 2 := z.1; omega)]
