/-! THE REFERENCE: read -/
set_option maxHeartbeats 4000000 in
set_option maxRecDepth 100000 in
theorem M_read_2 {d : Nat} {A B : List va_E} {vl : Int64} {nm : Nat → Int64} {Q : Option Value → List va_E → Nat → Nat → Prop} {s0 : Nat → Int} {a0 : Nat → Int → Int} {x m : Int} (hA : A.length = 18) {R : Int → Prop} (hm0 : 0 ≤ m) (hm1 : m ≤ 200) (k : ∀ r s' a', R r → s' 0 = s0 0 → (s' 4 = s0 4 ∧ s' 45 = s0 45 ∧ s' 30 = s0 30 ∧ s' 31 = s0 31 ∧ s' 13 = s0 13) → a' 1 = a0 1 → a' 2 = a0 2 → a' 3 = a0 3 → Q (some (.int (iI r))) (mh A s' vl a' nm B) 0 0) : ∀ (f : Nat) (i o : Int) {l : List Int} {ff : Nat} (s : Nat → Int) (a : Nat → Int → Int), 0 ≤ i → i ≤ m → in32 o → (∀ j, in32 (a 4 j)) → (∀ j, in32 (a 16 j)) → l.length ≤ 500 → tL ff 0 l → s 6 = l.length → rg (a 4) l.length 0 = l → (s 0 = s0 0 ∧ (s 4 = s0 4 ∧ s 45 = s0 45 ∧ s 30 = s0 30 ∧ s 31 = s0 31 ∧ s 13 = s0 13) ∧ a 1 = a0 1 ∧ a 2 = a0 2 ∧ a 3 = a0 3) → (∀ r, rdq (m - i).toNat o l r → R r) → m - i < (f : Int) → pm_E none (d + 5) pm_mm201 104 [(0, .ref 18), (1, .int (iI x)), (2, .int (iI m)), (3, .int (iI o)), (4, .int (iI i))] [] (mh A s vl a nm B) 0 0 Q := by
  intro f
  induction f with
  | zero =>
    intro i o l ff s a h0 h1 ho hr hq tl tt h6 hg hF hR hf
    exfalso; omega
  | succ f ih =>
    intro i o l ff s a h0 h1 ho hr hq tl tt h6 hg hF hR hf
    obtain ⟨ho1, ho2⟩ := ho
    refine pm_e_sim pm_a201_104 rfl ?_
    show pm_E _ _ _ 106 [(0, .ref 18), (1, .int (iI x)), (2, .int (iI m)), (3, .int (iI o)), (4, .int (iI i))] [.int (iI i)] _ _ _ _
    refine pm_e_sim pm_a201_106 rfl ?_
    show pm_E _ _ _ 107 [(0, .ref 18), (1, .int (iI x)), (2, .int (iI m)), (3, .int (iI o)), (4, .int (iI i))] [.int (iI m), .int (iI i)] _ _ _ _
    refine pm_c_ge (t := 127) pm_a201_107 rfl ⟨by omega, by omega⟩ ⟨by omega, by omega⟩ (fun h_1 => ?_) (fun h_1 => ?_)
    · skip
      show pm_E _ _ _ 127 [(0, .ref 18), (1, .int (iI x)), (2, .int (iI m)), (3, .int (iI o)), (4, .int (iI i))] [] _ _ _ _
      refine pm_e_sim pm_a201_127 rfl ?_
      show pm_E _ _ _ 128 [(0, .ref 18), (1, .int (iI x)), (2, .int (iI m)), (3, .int (iI o)), (4, .int (iI i))] [.int (iI o)] _ _ _ _
      refine pm_e_sim pm_a201_128 rfl ?_
      refine pm_e_top (y := iI (-3)) (by decide +kernel) ?_
      show pm_E _ _ _ 130 [(0, .ref 18), (1, .int (iI x)), (2, .int (iI m)), (3, .int (iI o)), (4, .int (iI i))] [.int (iI (-3)), .int (iI o)] _ _ _ _
      refine pm_c_ne (t := 136) pm_a201_130 rfl ⟨by omega, by omega⟩ ⟨by omega, by omega⟩ (fun h_2 => ?_) (fun h_2 => ?_)
      · skip
        show pm_E _ _ _ 136 [(0, .ref 18), (1, .int (iI x)), (2, .int (iI m)), (3, .int (iI o)), (4, .int (iI i))] [] _ _ _ _
        refine pm_e_sim pm_a201_136 rfl ?_
        show pm_E _ _ _ 137 [(0, .ref 18), (1, .int (iI x)), (2, .int (iI m)), (3, .int (iI o)), (4, .int (iI i))] [.ref 18] _ _ _ _
        refine pm_i_callv (k := 18) (T2 := pm_mm193) pm_a201_137 rfl rfl rfl (mh_get (j := 0) hA rfl) ⟨Nat.le_of_ble_eq_true rfl, Nat.le_of_ble_eq_true rfl, rfl, by decide +kernel⟩ ?_
        show pm_E none _ _ 0 [(0, .ref 18)] [] _ _ _ _
        have hp := tL_pos tt
        refine M_count0 hA hr (by omega) (by omega) ?_
        have hz := cnt_z (g := a 4) (sz := s 6) (s 6).toNat 0 0 (by omega)
        rw [h6] at hz
        rw [h6]
        generalize cnt (a 4) l.length (l.length : Int).toNat 0 0 = z at hz ⊢
        have hz3 : 0 ≤ z ∧ z ≤ 500 := by rcases hz with ⟨h, _⟩ | ⟨h, h', _⟩ <;> omega
        show pm_E _ _ _ 140 [(0, .ref 18), (1, .int (iI x)), (2, .int (iI m)), (3, .int (iI o)), (4, .int (iI i))] [.int (iI z)] _ _ _ _
        refine pm_i_le (t := 148) pm_a201_140 rfl ⟨by omega, by omega⟩ (fun h_3 => ?_) (fun h_3 => ?_)
        · skip
          show pm_E _ _ _ 148 [(0, .ref 18), (1, .int (iI x)), (2, .int (iI m)), (3, .int (iI o)), (4, .int (iI i))] [] _ _ _ _
          refine pm_e_sim pm_a201_148 rfl ?_
          show pm_E _ _ _ 149 [(0, .ref 18), (1, .int (iI x)), (2, .int (iI m)), (3, .int (iI o)), (4, .int (iI i))] [.ref 18] _ _ _ _
          refine pm_i_callv (k := 18) (T2 := pm_mm200) pm_a201_149 rfl rfl rfl (mh_get (j := 0) hA rfl) ⟨Nat.le_of_ble_eq_true rfl, Nat.le_of_ble_eq_true rfl, rfl, by decide +kernel⟩ ?_
          show pm_E none _ _ 0 [(0, .ref 18)] [] _ _ _ _
          refine M_numberNow hA hr (by omega) (by omega) (ft := ff) (kk := 0) (by rw [h6]; exact tL_tm0 tt hg) (fun r hnr => ?_)
          rw [h6] at hnr
          show pm_E _ _ _ 152 [(0, .ref 18), (1, .int (iI x)), (2, .int (iI m)), (3, .int (iI o)), (4, .int (iI i))] [.int (iI r)] _ _ _ _
          refine pm_e_ret pm_a201_152 rfl rfl rfl rfl rfl rfl rfl rfl ?_
          exact k _ s a (hR _ (rdq_n (fun z => by omega) (by omega) ⟨a 4, hg, Or.inr ⟨by rcases hz with ⟨_, h⟩ | ⟨h, _⟩; exact h; omega, hnr⟩⟩)) hF.1 hF.2.1 hF.2.2.1 hF.2.2.2.1 hF.2.2.2.2
        · skip
          show pm_E _ _ _ 143 [(0, .ref 18), (1, .int (iI x)), (2, .int (iI m)), (3, .int (iI o)), (4, .int (iI i))] [] _ _ _ _
          refine pm_e_sim pm_a201_143 rfl ?_
          refine pm_e_top (y := iI (-2)) (by decide +kernel) ?_
          show pm_E _ _ _ 145 [(0, .ref 18), (1, .int (iI x)), (2, .int (iI m)), (3, .int (iI o)), (4, .int (iI i))] [.int (iI (-2))] _ _ _ _
          refine pm_e_goto pm_a201_145 rfl ?_
          show pm_E _ _ _ 152 [(0, .ref 18), (1, .int (iI x)), (2, .int (iI m)), (3, .int (iI o)), (4, .int (iI i))] [.int (iI (-2))] _ _ _ _
          refine pm_e_ret pm_a201_152 rfl rfl rfl rfl rfl rfl rfl rfl ?_
          exact k _ s a (hR _ (rdq_n (fun z => by omega) (by omega) ⟨a 4, hg, Or.inl ⟨by rcases hz with ⟨h, _⟩ | ⟨_, _, h⟩; omega; exact h, rfl⟩⟩)) hF.1 hF.2.1 hF.2.2.1 hF.2.2.2.1 hF.2.2.2.2
      · skip
        show pm_E _ _ _ 133 [(0, .ref 18), (1, .int (iI x)), (2, .int (iI m)), (3, .int (iI o)), (4, .int (iI i))] [] _ _ _ _
        refine pm_e_sim pm_a201_133 rfl ?_
        refine pm_e_top (y := iI (-3)) (by decide +kernel) ?_
        show pm_E _ _ _ 135 [(0, .ref 18), (1, .int (iI x)), (2, .int (iI m)), (3, .int (iI o)), (4, .int (iI i))] [.int (iI (-3))] _ _ _ _
        refine pm_e_ret pm_a201_135 rfl rfl rfl rfl rfl rfl rfl rfl ?_
        exact k _ s a (hR _ (rdq_3 (by omega))) hF.1 hF.2.1 hF.2.2.1 hF.2.2.2.1 hF.2.2.2.2
    · skip
      show pm_E _ _ _ 110 [(0, .ref 18), (1, .int (iI x)), (2, .int (iI m)), (3, .int (iI o)), (4, .int (iI i))] [] _ _ _ _
      refine pm_e_sim pm_a201_110 rfl ?_
      show pm_E _ _ _ 111 [(0, .ref 18), (1, .int (iI x)), (2, .int (iI m)), (3, .int (iI o)), (4, .int (iI i))] [.int (iI o)] _ _ _ _
      refine pm_e_sim pm_a201_111 rfl ?_
      refine pm_e_top (y := iI 1) (by decide +kernel) ?_
      show pm_E _ _ _ 112 [(0, .ref 18), (1, .int (iI x)), (2, .int (iI m)), (3, .int (iI o)), (4, .int (iI i))] [.int (iI 1), .int (iI o)] _ _ _ _
      refine pm_c_ne (t := 127) pm_a201_112 rfl ⟨by omega, by omega⟩ ⟨by omega, by omega⟩ (fun h_4 => ?_) (fun h_4 => ?_)
      · skip
        show pm_E _ _ _ 127 [(0, .ref 18), (1, .int (iI x)), (2, .int (iI m)), (3, .int (iI o)), (4, .int (iI i))] [] _ _ _ _
        refine pm_e_sim pm_a201_127 rfl ?_
        show pm_E _ _ _ 128 [(0, .ref 18), (1, .int (iI x)), (2, .int (iI m)), (3, .int (iI o)), (4, .int (iI i))] [.int (iI o)] _ _ _ _
        refine pm_e_sim pm_a201_128 rfl ?_
        refine pm_e_top (y := iI (-3)) (by decide +kernel) ?_
        show pm_E _ _ _ 130 [(0, .ref 18), (1, .int (iI x)), (2, .int (iI m)), (3, .int (iI o)), (4, .int (iI i))] [.int (iI (-3)), .int (iI o)] _ _ _ _
        refine pm_c_ne (t := 136) pm_a201_130 rfl ⟨by omega, by omega⟩ ⟨by omega, by omega⟩ (fun h_5 => ?_) (fun h_5 => ?_)
        · skip
          show pm_E _ _ _ 136 [(0, .ref 18), (1, .int (iI x)), (2, .int (iI m)), (3, .int (iI o)), (4, .int (iI i))] [] _ _ _ _
          refine pm_e_sim pm_a201_136 rfl ?_
          show pm_E _ _ _ 137 [(0, .ref 18), (1, .int (iI x)), (2, .int (iI m)), (3, .int (iI o)), (4, .int (iI i))] [.ref 18] _ _ _ _
          refine pm_i_callv (k := 18) (T2 := pm_mm193) pm_a201_137 rfl rfl rfl (mh_get (j := 0) hA rfl) ⟨Nat.le_of_ble_eq_true rfl, Nat.le_of_ble_eq_true rfl, rfl, by decide +kernel⟩ ?_
          show pm_E none _ _ 0 [(0, .ref 18)] [] _ _ _ _
          have hp := tL_pos tt
          refine M_count0 hA hr (by omega) (by omega) ?_
          have hz := cnt_z (g := a 4) (sz := s 6) (s 6).toNat 0 0 (by omega)
          rw [h6] at hz
          rw [h6]
          generalize cnt (a 4) l.length (l.length : Int).toNat 0 0 = z at hz ⊢
          have hz3 : 0 ≤ z ∧ z ≤ 500 := by rcases hz with ⟨h, _⟩ | ⟨h, h', _⟩ <;> omega
          show pm_E _ _ _ 140 [(0, .ref 18), (1, .int (iI x)), (2, .int (iI m)), (3, .int (iI o)), (4, .int (iI i))] [.int (iI z)] _ _ _ _
          refine pm_i_le (t := 148) pm_a201_140 rfl ⟨by omega, by omega⟩ (fun h_6 => ?_) (fun h_6 => ?_)
          · skip
            show pm_E _ _ _ 148 [(0, .ref 18), (1, .int (iI x)), (2, .int (iI m)), (3, .int (iI o)), (4, .int (iI i))] [] _ _ _ _
            refine pm_e_sim pm_a201_148 rfl ?_
            show pm_E _ _ _ 149 [(0, .ref 18), (1, .int (iI x)), (2, .int (iI m)), (3, .int (iI o)), (4, .int (iI i))] [.ref 18] _ _ _ _
            refine pm_i_callv (k := 18) (T2 := pm_mm200) pm_a201_149 rfl rfl rfl (mh_get (j := 0) hA rfl) ⟨Nat.le_of_ble_eq_true rfl, Nat.le_of_ble_eq_true rfl, rfl, by decide +kernel⟩ ?_
            show pm_E none _ _ 0 [(0, .ref 18)] [] _ _ _ _
            refine M_numberNow hA hr (by omega) (by omega) (ft := ff) (kk := 0) (by rw [h6]; exact tL_tm0 tt hg) (fun r hnr => ?_)
            rw [h6] at hnr
            show pm_E _ _ _ 152 [(0, .ref 18), (1, .int (iI x)), (2, .int (iI m)), (3, .int (iI o)), (4, .int (iI i))] [.int (iI r)] _ _ _ _
            refine pm_e_ret pm_a201_152 rfl rfl rfl rfl rfl rfl rfl rfl ?_
            exact k _ s a (hR _ (rdq_n (fun z => by omega) (by omega) ⟨a 4, hg, Or.inr ⟨by rcases hz with ⟨_, h⟩ | ⟨h, _⟩; exact h; omega, hnr⟩⟩)) hF.1 hF.2.1 hF.2.2.1 hF.2.2.2.1 hF.2.2.2.2
          · skip
            show pm_E _ _ _ 143 [(0, .ref 18), (1, .int (iI x)), (2, .int (iI m)), (3, .int (iI o)), (4, .int (iI i))] [] _ _ _ _
            refine pm_e_sim pm_a201_143 rfl ?_
            refine pm_e_top (y := iI (-2)) (by decide +kernel) ?_
            show pm_E _ _ _ 145 [(0, .ref 18), (1, .int (iI x)), (2, .int (iI m)), (3, .int (iI o)), (4, .int (iI i))] [.int (iI (-2))] _ _ _ _
            refine pm_e_goto pm_a201_145 rfl ?_
            show pm_E _ _ _ 152 [(0, .ref 18), (1, .int (iI x)), (2, .int (iI m)), (3, .int (iI o)), (4, .int (iI i))] [.int (iI (-2))] _ _ _ _
            refine pm_e_ret pm_a201_152 rfl rfl rfl rfl rfl rfl rfl rfl ?_
            exact k _ s a (hR _ (rdq_n (fun z => by omega) (by omega) ⟨a 4, hg, Or.inl ⟨by rcases hz with ⟨h, _⟩ | ⟨_, _, h⟩; omega; exact h, rfl⟩⟩)) hF.1 hF.2.1 hF.2.2.1 hF.2.2.2.1 hF.2.2.2.2
        · skip
          show pm_E _ _ _ 133 [(0, .ref 18), (1, .int (iI x)), (2, .int (iI m)), (3, .int (iI o)), (4, .int (iI i))] [] _ _ _ _
          refine pm_e_sim pm_a201_133 rfl ?_
          refine pm_e_top (y := iI (-3)) (by decide +kernel) ?_
          show pm_E _ _ _ 135 [(0, .ref 18), (1, .int (iI x)), (2, .int (iI m)), (3, .int (iI o)), (4, .int (iI i))] [.int (iI (-3))] _ _ _ _
          refine pm_e_ret pm_a201_135 rfl rfl rfl rfl rfl rfl rfl rfl ?_
          exact k _ s a (hR _ (rdq_3 (by omega))) hF.1 hF.2.1 hF.2.2.1 hF.2.2.2.1 hF.2.2.2.2
      · skip
        show pm_E _ _ _ 115 [(0, .ref 18), (1, .int (iI x)), (2, .int (iI m)), (3, .int (iI o)), (4, .int (iI i))] [] _ _ _ _
        refine pm_e_sim pm_a201_115 rfl ?_
        show pm_E _ _ _ 116 [(0, .ref 18), (1, .int (iI x)), (2, .int (iI m)), (3, .int (iI o)), (4, .int (iI i))] [.ref 18] _ _ _ _
        refine pm_e_sim pm_a201_116 rfl ?_
        refine pm_e_top (y := iI 0) (by decide +kernel) ?_
        show pm_E _ _ _ 117 [(0, .ref 18), (1, .int (iI x)), (2, .int (iI m)), (3, .int (iI o)), (4, .int (iI i))] [.int (iI 0), .ref 18] _ _ _ _
        refine pm_i_callv (k := 18) (T2 := pm_mm178) pm_a201_117 rfl rfl rfl (mh_get (j := 0) hA rfl) ⟨Nat.le_of_ble_eq_true rfl, Nat.le_of_ble_eq_true rfl, rfl, by decide +kernel⟩ ?_
        show pm_E none _ _ 0 [(0, .ref 18), (1, .int (iI 0))] [] _ _ _ _
        refine M_steppedT hA hr hq tl tt h6 hg (by omega) (by omega) (fun r l' s2 a2 hst fr e2 g2 hr2 => ?_)
        obtain ⟨l5, F5, t5⟩ := stp_ok tt tl hst
        obtain ⟨fS, fA, fr4, fr16⟩ := fr
        show pm_E _ _ _ 120 [(0, .ref 18), (1, .int (iI x)), (2, .int (iI m)), (3, .int (iI o)), (4, .int (iI i))] [.int (iI r)] _ _ _ _
        refine pm_e_sim pm_a201_120 rfl ?_
        show pm_E _ _ _ 121 [(0, .ref 18), (1, .int (iI x)), (2, .int (iI m)), (3, .int (iI r)), (4, .int (iI i))] [] _ _ _ _
        refine pm_e_inc (y := iI (i + 1)) pm_a201_121 rfl (iI_add _ _) (by decide +kernel) rfl ?_
        show pm_E _ _ _ 124 [(0, .ref 18), (1, .int (iI x)), (2, .int (iI m)), (3, .int (iI r)), (4, .int (iI (i + 1)))] [] _ _ _ _
        refine pm_e_goto pm_a201_124 rfl ?_
        show pm_E _ _ _ 104 [(0, .ref 18), (1, .int (iI x)), (2, .int (iI m)), (3, .int (iI r)), (4, .int (iI (i + 1)))] [] _ _ _ _
        refine ih (i + 1) r (l := l') s2 a2 (by omega) (by omega) hr2 fr4 fr16 l5 t5 e2 g2 ⟨?_, ?_, ?_, ?_, ?_⟩ (fun r9 h9 => hR r9 (by rw [show (m - i).toNat = (m - (i + 1)).toNat + 1 by omega]; exact rdq_s (by omega) hst h9)) (by omega)
        · rw [fS 0 (by omega) (by omega)]; exact hF.1
        · exact ⟨by rw [fS 4 (by omega) (by omega)]; exact hF.2.1.1, by rw [fS 45 (by omega) (by omega)]; exact hF.2.1.2.1, by rw [fS 30 (by omega) (by omega)]; exact hF.2.1.2.2.1, by rw [fS 31 (by omega) (by omega)]; exact hF.2.1.2.2.2.1, by rw [fS 13 (by omega) (by omega)]; exact hF.2.1.2.2.2.2⟩
        · rw [fA 1 (by omega) (by omega) (by omega) (by omega) (by omega)]; exact hF.2.2.1
        · rw [fA 2 (by omega) (by omega) (by omega) (by omega) (by omega)]; exact hF.2.2.2.1
        · rw [fA 3 (by omega) (by omega) (by omega) (by omega) (by omega)]; exact hF.2.2.2.2
set_option maxHeartbeats 4000000 in
set_option maxRecDepth 100000 in
theorem M_read {d : Nat} {A B : List va_E} {s : Nat → Int} {vl : Int64} {a : Nat → Int → Int} {nm : Nat → Int64} {Q : Option Value → List va_E → Nat → Nat → Prop} {n x : Int} {T : Int → List Int} {m : Int} (hA : A.length = 18) (hin : ∀ i j, in32 (a i j)) (hok : okT n T) (hsh : sh s a n T) (hx : in32 x) (hm : in32 m) (kb : (x < 0 ∨ n ≤ x ∨ m < 0 ∨ 200 < m) → Q (some (.int (iI (-1)))) (mh A s vl a nm B) 0 0) (kf : 0 ≤ x → x < n → 0 ≤ m → m ≤ 200 → 500 < (T x).length + 4 → Q (some (.int (iI (-3)))) (mh A s vl a nm B) 0 0) (k : 0 ≤ x → x < n → 0 ≤ m → m ≤ 200 → (T x).length + 4 ≤ 500 → ∀ r s' a', rdR m.toNat ([0, 0] ++ T x ++ [5] ++ [6]) r → s' 0 = s 0 → (s' 4 = s 4 ∧ s' 45 = s 45 ∧ s' 30 = s 30 ∧ s' 31 = s 31 ∧ s' 13 = s 13) → a' 1 = a 1 → a' 2 = a 2 → a' 3 = a 3 → Q (some (.int (iI r))) (mh A s' vl a' nm B) 0 0) : pm_E none (d + 5) pm_mm201 0 [(0, .ref 18), (1, .int (iI x)), (2, .int (iI m))] [] (mh A s vl a nm B) 0 0 Q := by
  obtain ⟨on0, on1, okk⟩ := id hok
  have s0 := hsh.1
  have hsz : ∀ t, 0 ≤ t → t < n → 1 ≤ a 1 t ∧ a 1 t ≤ 500 := fun t z y => by have := (hsh.2 t z y).1; obtain ⟨h1, f, h2⟩ := okk t z y; have := tL_pos h2; omega
  refine pm_e_sim pm_a201_0 rfl ?_
  show pm_E _ _ _ 1 [(0, .ref 18), (1, .int (iI x)), (2, .int (iI m))] [.ref 18] _ _ _ _
  refine pm_e_sim pm_a201_1 rfl ?_
  show pm_E _ _ _ 2 [(0, .ref 18), (1, .int (iI x)), (2, .int (iI m))] [.int (iI x), .ref 18] _ _ _ _
  refine pm_i_callv (k := 18) (T2 := pm_mm165) pm_a201_2 rfl rfl rfl (mh_get (j := 0) hA rfl) ⟨Nat.le_of_ble_eq_true rfl, Nat.le_of_ble_eq_true rfl, rfl, by decide +kernel⟩ ?_
  show pm_E none _ _ 0 [(0, .ref 18), (1, .int (iI x))] [] _ _ _ _
  refine M_isTerm hA ⟨by omega, by omega⟩ (by omega) (by omega) (fun h_1 => ?_) (fun h_1 => ?_)
  · skip
    show pm_E _ _ _ 5 [(0, .ref 18), (1, .int (iI x)), (2, .int (iI m))] [.int (iI 1)] _ _ _ _
    refine pm_e_iff pm_a201_5 rfl (by decide +kernel) ?_
    show pm_E _ _ _ 8 [(0, .ref 18), (1, .int (iI x)), (2, .int (iI m))] [] _ _ _ _
    refine pm_e_sim pm_a201_8 rfl ?_
    show pm_E _ _ _ 9 [(0, .ref 18), (1, .int (iI x)), (2, .int (iI m))] [.int (iI m)] _ _ _ _
    refine pm_e_sim pm_a201_9 rfl ?_
    refine pm_l_top (y := lI (m)) (iI_l ⟨by omega, by omega⟩) ?_
    show pm_E _ _ _ 10 [(0, .ref 18), (1, .int (iI x)), (2, .int (iI m))] [.long (lI m)] _ _ _ _
    refine pm_e_sim pm_a201_10 rfl ?_
    refine pm_l_top (y := lI 0) (by decide +kernel) ?_
    show pm_E _ _ _ 11 [(0, .ref 18), (1, .int (iI x)), (2, .int (iI m))] [.long (lI 0), .long (lI m)] _ _ _ _
    refine pm_e_rd pm_a201_11 rfl rfl rfl ?_
    refine pm_l_top (y := lI 200) (by decide +kernel) ?_
    show pm_E _ _ _ 14 [(0, .ref 18), (1, .int (iI x)), (2, .int (iI m))] [.long (lI 200), .long (lI 0), .long (lI m)] _ _ _ _
    refine pm_e_call (T2 := pm_mm147) pm_a201_14 rfl rfl rfl rfl rfl rfl rfl rfl rfl ?_
    show pm_E none _ _ 0 [(0, .long (lI m)), (2, .long (lI 0)), (4, .long (lI 200))] [] _ _ _ _
    refine M_in ⟨by omega, by omega⟩ ⟨by omega, by omega⟩ ⟨by omega, by omega⟩ (fun h_2 => ?_) (fun h_2 => ?_)
    · skip
      show pm_E _ _ _ 17 [(0, .ref 18), (1, .int (iI x)), (2, .int (iI m))] [.int (iI 1)] _ _ _ _
      refine pm_e_ift pm_a201_17 rfl (by decide +kernel) ?_
      show pm_E _ _ _ 22 [(0, .ref 18), (1, .int (iI x)), (2, .int (iI m))] [] _ _ _ _
      refine pm_e_sim pm_a201_22 rfl ?_
      show pm_E _ _ _ 23 [(0, .ref 18), (1, .int (iI x)), (2, .int (iI m))] [.ref 18] _ _ _ _
      refine pm_i_get pm_a201_23 rfl (mh_get (j := 0) hA rfl) rfl ?_
      show pm_E _ _ _ 26 [(0, .ref 18), (1, .int (iI x)), (2, .int (iI m))] [.ref 19] _ _ _ _
      refine pm_e_sim pm_a201_26 rfl ?_
      show pm_E _ _ _ 27 [(0, .ref 18), (1, .int (iI x)), (2, .int (iI m))] [.int (iI x), .ref 19] _ _ _ _
      have hz := hsz x (by omega) (by omega)
      refine pm_i_ald pm_a201_27 (mh_get (j := 1) hA rfl) (by omega) (by omega) ⟨by omega, by omega⟩ ?_
      show pm_E _ _ _ 28 [(0, .ref 18), (1, .int (iI x)), (2, .int (iI m))] [.int (iI ((a 1) (x)))] _ _ _ _
      refine pm_e_sim pm_a201_28 rfl ?_
      refine pm_e_top (y := iI 4) (by decide +kernel) ?_
      show pm_E _ _ _ 29 [(0, .ref 18), (1, .int (iI x)), (2, .int (iI m))] [.int (iI 4), .int (iI ((a 1) (x)))] _ _ _ _
      refine pm_e_sim pm_a201_29 rfl ?_
      refine pm_e_top (y := iI ((a 1) (x) + 4)) (iI_add _ _) ?_
      show pm_E _ _ _ 30 [(0, .ref 18), (1, .int (iI x)), (2, .int (iI m))] [.int (iI ((a 1) (x) + 4))] _ _ _ _
      refine pm_e_sim pm_a201_30 rfl ?_
      refine pm_e_top (y := iI 500) (by decide +kernel) ?_
      show pm_E _ _ _ 33 [(0, .ref 18), (1, .int (iI x)), (2, .int (iI m))] [.int (iI 500), .int (iI ((a 1) (x) + 4))] _ _ _ _
      refine pm_c_le (t := 39) pm_a201_33 rfl ⟨by omega, by omega⟩ ⟨by omega, by omega⟩ (fun h_3 => ?_) (fun h_3 => ?_)
      · skip
        show pm_E _ _ _ 39 [(0, .ref 18), (1, .int (iI x)), (2, .int (iI m))] [] _ _ _ _
        refine pm_e_sim pm_a201_39 rfl ?_
        show pm_E _ _ _ 40 [(0, .ref 18), (1, .int (iI x)), (2, .int (iI m))] [.ref 18] _ _ _ _
        refine pm_e_sim pm_a201_40 rfl ?_
        refine pm_e_top (y := iI 0) (by decide +kernel) ?_
        show pm_E _ _ _ 41 [(0, .ref 18), (1, .int (iI x)), (2, .int (iI m))] [.int (iI 0), .ref 18] _ _ _ _
        refine pm_i_put pm_a201_41 rfl (mh_get (j := 0) hA rfl) rfl (Nat.le_of_ble_eq_true rfl) (Or.inl rfl) (mw_6 hA _) ?_
        show pm_E _ _ _ 44 [(0, .ref 18), (1, .int (iI x)), (2, .int (iI m))] [] _ _ _ _
        refine pm_e_sim pm_a201_44 rfl ?_
        show pm_E _ _ _ 45 [(0, .ref 18), (1, .int (iI x)), (2, .int (iI m))] [.ref 18] _ _ _ _
        refine pm_e_sim pm_a201_45 rfl ?_
        refine pm_e_top (y := iI 0) (by decide +kernel) ?_
        show pm_E _ _ _ 46 [(0, .ref 18), (1, .int (iI x)), (2, .int (iI m))] [.int (iI 0), .ref 18] _ _ _ _
        refine pm_i_callv (k := 18) (T2 := pm_mm157) pm_a201_46 rfl rfl rfl (mh_get (j := 0) hA rfl) ⟨Nat.le_of_ble_eq_true rfl, Nat.le_of_ble_eq_true rfl, rfl, by decide +kernel⟩ ?_
        show pm_E none _ _ 0 [(0, .ref 18), (1, .int (iI 0))] [] _ _ _ _
        refine M_lay hA (show (0 : Int) ≤ 0 by omega) (show 0 < 12000 by omega) ?_
        show pm_E _ _ _ 49 [(0, .ref 18), (1, .int (iI x)), (2, .int (iI m))] [] _ _ _ _
        refine pm_e_sim pm_a201_49 rfl ?_
        show pm_E _ _ _ 50 [(0, .ref 18), (1, .int (iI x)), (2, .int (iI m))] [.ref 18] _ _ _ _
        refine pm_e_sim pm_a201_50 rfl ?_
        refine pm_e_top (y := iI 0) (by decide +kernel) ?_
        show pm_E _ _ _ 51 [(0, .ref 18), (1, .int (iI x)), (2, .int (iI m))] [.int (iI 0), .ref 18] _ _ _ _
        refine pm_i_callv (k := 18) (T2 := pm_mm157) pm_a201_51 rfl rfl rfl (mh_get (j := 0) hA rfl) ⟨Nat.le_of_ble_eq_true rfl, Nat.le_of_ble_eq_true rfl, rfl, by decide +kernel⟩ ?_
        show pm_E none _ _ 0 [(0, .ref 18), (1, .int (iI 0))] [] _ _ _ _
        refine M_lay hA (show (0 : Int) ≤ 0 + 1 by omega) (show 0 + 1 < 12000 by omega) ?_
        show pm_E _ _ _ 54 [(0, .ref 18), (1, .int (iI x)), (2, .int (iI m))] [] _ _ _ _
        refine pm_e_sim pm_a201_54 rfl ?_
        refine pm_e_top (y := iI 0) (by decide +kernel) ?_
        show pm_E _ _ _ 55 [(0, .ref 18), (1, .int (iI x)), (2, .int (iI m))] [.int (iI 0)] _ _ _ _
        refine pm_e_sim pm_a201_55 rfl ?_
        show pm_E _ _ _ 56 [(0, .ref 18), (1, .int (iI x)), (2, .int (iI m)), (3, .int (iI 0))] [] _ _ _ _
        obtain ⟨tl, ft, tt⟩ := hok.2.2 x (by omega) (by omega)
        have tp := tL_pos tt
        obtain ⟨ts, tg⟩ := hsh.2 x (by omega) (by omega)
        refine M_read_1 (s0 := s) (a0 := a) hA (by omega) (by omega) (by omega) (by omega) (hin 2) (a 1 x + 1).toNat 0 [0, 0] _ _ (by omega) (by omega) (fun j hj => by simp [updS, hj]) (fun j hj => by simp [updA, hj]) rfl (show (2 : Int) + _ ≤ _ by omega) (by show [updI (updI (a 4) 0 0) 1 0 0, updI (updI (a 4) 0 0) 1 0 1] = [0, 0]; rw [updI_s, updI_n _ _ (by omega), updI_s]) (updI_in (updI_in (hin 4) (by decide)) (by decide)) ?_ (by omega)
        intro s1 a1 l1 hS1 hA1 g61 gg1 i1
        rw [show (a 1 x - 0).toNat = (T x).length by omega, show 500 * x + 0 = 500 * x by omega, tg] at gg1
        have gl1 : l1.length = 2 + (T x).length := by rw [gg1]; simp only [List.length_append, List.length_cons, List.length_nil]
        obtain ⟨g6, gr, hr1⟩ := g61
        refine pm_e_sim pm_a201_88 rfl ?_
        show pm_E _ _ _ 89 [(0, .ref 18), (1, .int (iI x)), (2, .int (iI m)), (3, .int (iI i1))] [.ref 18] _ _ _ _
        refine pm_e_sim pm_a201_89 rfl ?_
        refine pm_e_top (y := iI 5) (by decide +kernel) ?_
        show pm_E _ _ _ 90 [(0, .ref 18), (1, .int (iI x)), (2, .int (iI m)), (3, .int (iI i1))] [.int (iI 5), .ref 18] _ _ _ _
        refine pm_i_callv (k := 18) (T2 := pm_mm157) pm_a201_90 rfl rfl rfl (mh_get (j := 0) hA rfl) ⟨Nat.le_of_ble_eq_true rfl, Nat.le_of_ble_eq_true rfl, rfl, by decide +kernel⟩ ?_
        show pm_E none _ _ 0 [(0, .ref 18), (1, .int (iI 5))] [] _ _ _ _
        refine M_lay hA (show (0 : Int) ≤ s1 6 by omega) (show s1 6 < 12000 by omega) ?_
        show pm_E _ _ _ 93 [(0, .ref 18), (1, .int (iI x)), (2, .int (iI m)), (3, .int (iI i1))] [] _ _ _ _
        refine pm_e_sim pm_a201_93 rfl ?_
        show pm_E _ _ _ 94 [(0, .ref 18), (1, .int (iI x)), (2, .int (iI m)), (3, .int (iI i1))] [.ref 18] _ _ _ _
        refine pm_e_sim pm_a201_94 rfl ?_
        refine pm_e_top (y := iI 6) (by decide +kernel) ?_
        show pm_E _ _ _ 96 [(0, .ref 18), (1, .int (iI x)), (2, .int (iI m)), (3, .int (iI i1))] [.int (iI 6), .ref 18] _ _ _ _
        refine pm_i_callv (k := 18) (T2 := pm_mm157) pm_a201_96 rfl rfl rfl (mh_get (j := 0) hA rfl) ⟨Nat.le_of_ble_eq_true rfl, Nat.le_of_ble_eq_true rfl, rfl, by decide +kernel⟩ ?_
        show pm_E none _ _ 0 [(0, .ref 18), (1, .int (iI 6))] [] _ _ _ _
        refine M_lay hA (show (0 : Int) ≤ s1 6 + 1 by omega) (show s1 6 + 1 < 12000 by omega) ?_
        show pm_E _ _ _ 99 [(0, .ref 18), (1, .int (iI x)), (2, .int (iI m)), (3, .int (iI i1))] [] _ _ _ _
        refine pm_e_sim pm_a201_99 rfl ?_
        refine pm_e_top (y := iI 1) (by decide +kernel) ?_
        show pm_E _ _ _ 100 [(0, .ref 18), (1, .int (iI x)), (2, .int (iI m)), (3, .int (iI i1))] [.int (iI 1)] _ _ _ _
        refine pm_e_sim pm_a201_100 rfl ?_
        show pm_E _ _ _ 101 [(0, .ref 18), (1, .int (iI x)), (2, .int (iI m)), (3, .int (iI 1))] [] _ _ _ _
        refine pm_e_sim pm_a201_101 rfl ?_
        refine pm_e_top (y := iI 0) (by decide +kernel) ?_
        show pm_E _ _ _ 102 [(0, .ref 18), (1, .int (iI x)), (2, .int (iI m)), (3, .int (iI 1))] [.int (iI 0)] _ _ _ _
        refine pm_e_sim pm_a201_102 rfl ?_
        show pm_E _ _ _ 104 [(0, .ref 18), (1, .int (iI x)), (2, .int (iI m)), (3, .int (iI 1)), (4, .int (iI 0))] [] _ _ _ _
        have q1 := rg_ext (v := 5) gr g6
        have q2 := rg_ext (v := 6) (n := s1 6 + 1) q1 (by rw [List.length_append, List.length_singleton]; omega)
        refine M_read_2 (s0 := s) (a0 := a) (R := fun r => rdR m.toNat ([0, 0] ++ T x ++ [5] ++ [6]) r) hA (by omega) (by omega) (k (by omega) (by omega) (by omega) (by omega) (by omega)) 201 0 1 (l := l1 ++ [5] ++ [6]) (ff := ft + 2) _ _ (by omega) (by omega) (by decide) ?_ (fun j => by show in32 (a1 16 j); rw [hA1 16 (by omega)]; exact hin 16 j) (by simp only [List.length_append, List.length_cons, List.length_nil]; omega) ?_ (by show s1 6 + 1 + 1 = _; simp only [List.length_append, List.length_cons, List.length_nil]; omega) q2 ⟨hS1 0 (by omega), ⟨hS1 4 (by omega), hS1 45 (by omega), hS1 30 (by omega), hS1 31 (by omega), hS1 13 (by omega)⟩, hA1 1 (by omega), hA1 2 (by omega), hA1 3 (by omega)⟩ (fun r h9 => ?_) (by omega)
        · intro j
          show in32 (updI (updI (a1 4) (s1 6) 5) (s1 6 + 1) 6 j)
          unfold updI
          split
          · decide
          · split
            · decide
            · exact hr1 j
        · rw [gg1]
          refine Or.inl ⟨[0] ++ T x ++ [5], [6], by simp only [List.cons_append, List.append_assoc, List.nil_append], Or.inl ⟨T x, [5], by simp only [List.cons_append, List.append_assoc, List.nil_append], tL_le (by omega) tt, ?_⟩, Or.inr (Or.inr ⟨6, rfl, by omega, by omega⟩)⟩
          cases ft with
          | zero => exact tt.elim
          | succ ft => exact Or.inr (Or.inr ⟨5, rfl, by omega, by omega⟩)
        · rw [gg1, Int.sub_zero] at h9
          rcases h9 with ⟨_, h9⟩ | ⟨h9, _⟩
          · exact h9
          · exact absurd rfl h9
      · skip
        show pm_E _ _ _ 36 [(0, .ref 18), (1, .int (iI x)), (2, .int (iI m))] [] _ _ _ _
        refine pm_e_sim pm_a201_36 rfl ?_
        refine pm_e_top (y := iI (-3)) (by decide +kernel) ?_
        show pm_E _ _ _ 38 [(0, .ref 18), (1, .int (iI x)), (2, .int (iI m))] [.int (iI (-3))] _ _ _ _
        refine pm_e_ret pm_a201_38 rfl rfl rfl rfl rfl rfl rfl rfl ?_
        exact kf (by omega) (by omega) (by omega) (by omega) (by have := (hsh.2 x (by omega) (by omega)).1; omega)
    · skip
      show pm_E _ _ _ 17 [(0, .ref 18), (1, .int (iI x)), (2, .int (iI m))] [.int (iI 0)] _ _ _ _
      refine pm_e_iff pm_a201_17 rfl (by decide +kernel) ?_
      show pm_E _ _ _ 20 [(0, .ref 18), (1, .int (iI x)), (2, .int (iI m))] [] _ _ _ _
      refine pm_e_sim pm_a201_20 rfl ?_
      refine pm_e_top (y := iI (-1)) (by decide +kernel) ?_
      show pm_E _ _ _ 21 [(0, .ref 18), (1, .int (iI x)), (2, .int (iI m))] [.int (iI (-1))] _ _ _ _
      refine pm_e_ret pm_a201_21 rfl rfl rfl rfl rfl rfl rfl rfl ?_
      exact kb (by omega)
  · skip
    show pm_E _ _ _ 5 [(0, .ref 18), (1, .int (iI x)), (2, .int (iI m))] [.int (iI 0)] _ _ _ _
    refine pm_e_ift pm_a201_5 rfl (by decide +kernel) ?_
    show pm_E _ _ _ 20 [(0, .ref 18), (1, .int (iI x)), (2, .int (iI m))] [] _ _ _ _
    refine pm_e_sim pm_a201_20 rfl ?_
    refine pm_e_top (y := iI (-1)) (by decide +kernel) ?_
    show pm_E _ _ _ 21 [(0, .ref 18), (1, .int (iI x)), (2, .int (iI m))] [.int (iI (-1))] _ _ _ _
    refine pm_e_ret pm_a201_21 rfl rfl rfl rfl rfl rfl rfl rfl ?_
    exact kb (by omega)
