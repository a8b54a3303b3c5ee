/-! THE PURE MACHINE, 8: soundness by induction on the steps -/
theorem pm_rov_list {bS : Nat → Nat} {ad : List Nat} {v w : Option Value} (h : pm_rov bS ad v w) : pm_rs bS ad v.toList w.toList := by
  cases v with
  | none => cases w with
    | none => trivial
    | some w => exact h.elim
  | some v => cases w with
    | none => exact h.elim
    | some w => exact ⟨h, trivial⟩
theorem pm_snd (l : Launch) : ∀ f, pm_Snd l f
  | 0 => by
    intro bS scr d T pc lv st ph nc ns v ph2 nc2 ns2 h
    cases h
  | f + 1 => by
    have ih := pm_snd l f
    intro bS scr d T pc lv st ph nc ns v ph2 nc2 ns2 h hg D p e R s m args below meth c H locs Q A H0 ws ad ls lvA stA C hfr hlo hce hsl hP hD hS hA hw hl hv hs hX hZ hret
    obtain ⟨hx, hb, hml, hown, hini, hts, hN, hK⟩ := id C
    unfold pm_run at h
    split at h
    · cases h
    rename_i w hw0
    have hmem := List.all_eq_true.mp hg _ (pm_as_mem hw0)
    simp only [Bool.and_eq_true, Bool.or_eq_true, decide_eq_true_eq] at hmem
    obtain ⟨hdec, hlen⟩ := hmem
    obtain ⟨i, len⟩ := w
    dsimp only at hdec hlen h
    have hd : pm_isw i = false → decode (pm_by T) pc = .ok (i, pm_len i) := fun q => by
      rcases hlen with z | z
      · rw [q] at z; cases z
      · rw [← z]; exact hdec
    have hnone : ∀ {P : Prop}, (pm_isw i = true → P) → (pm_isw i = false → P) → P := fun h1 h2 => by
      cases hq : pm_isw i with
      | true => exact h1 hq
      | false => exact h2 hq
    split at h
    · rename_i x hsim
      obtain ⟨lv2, st2⟩ := x
      refine hnone (fun q => by rw [(pm_isw_none q (pm_ml T) lv st T scr ph).1] at hsim; cases hsim) (fun q => ?_)
      exact pm_sim_ok hx hb hsim (hd q) hl hv hs (fun ls2 lvA2 stA2 h1 h2 h3 => ih _ _ _ _ _ _ _ _ _ _ _ _ _ _ h hg D p e R s m args below meth c H locs Q A H0 ws ad ls2 lvA2 stA2 C hfr hlo hce hsl hP hD hS hA hw h1 h2 h3 hX hZ hret)
    split at h
    · rename_i x hjmp
      obtain ⟨pc2, st2⟩ := x
      exact pm_jmp_ok hx hb hjmp hdec hlen hs (fun stA2 h3 => ih _ _ _ _ _ _ _ _ _ _ _ _ _ _ h hg D p e R s m args below meth c H locs Q A H0 ws ad ls lvA stA2 C hfr hlo hce hsl hP hD hS hA hw hl hv h3 hX hZ hret)
    split at h
    · rename_i x hrd
      refine hnone (fun q => by rw [(pm_isw_none q (pm_ml T) lv st T scr ph).2.1] at hrd; cases hrd) (fun q => ?_)
      exact pm_rd_ok hx hb hown hts hN hK hP hS hw hX hZ hrd (hd q) hs (fun stA2 h3 => ih _ _ _ _ _ _ _ _ _ _ _ _ _ _ h hg D p e R s m args below meth c H locs Q A H0 ws ad ls lvA stA2 C hfr hlo hce hsl hP hD hS hA hw hl hv h3 hX hZ hret)
    split at h
    · rename_i x hwr
      obtain ⟨st2, k2, e2⟩ := x
      refine hnone (fun q => by rw [(pm_isw_none q (pm_ml T) lv st T scr ph).2.2.1] at hwr; cases hwr) (fun q => ?_)
      exact pm_wr_ok hx hb hown hini hts hN hK hP hD hS hw hwr (hd q) hs (fun H1 locs1 ws1 stA2 hP1 hD1 hS1 hw1 hs1 => ih _ _ _ _ _ _ _ _ _ _ _ _ _ _ h hg D p e R s m args below meth c H1 locs1 Q A H0 ws1 ad ls lvA stA2 C hfr hlo hce hsl hP1 hD1 hS1 hA hw1 hl hv hs1 hX hZ hret)
    split at h
    · rename_i x hnw
      obtain ⟨st2, e2, n2⟩ := x
      refine hnone (fun q => by rw [(pm_isw_none q (pm_ml T) lv st T scr ph).2.2.2.1] at hnw; cases hnw) (fun q => ?_)
      have hmono := pm_run_mono f h
      dsimp only at hmono
      exact pm_nw_ok hx hb hown hts hN hK hP hD hS hA hw hnw (hd q) hs (by omega) (by omega) (fun q H1 ws1 stA2 hP1 hD1 hS1 hw1 hs1 => ih _ _ _ _ _ _ _ _ _ _ _ _ _ _ h hg D p e R s m args below meth c H1 locs Q A H0 ws1 (ad ++ [q]) ls lvA stA2 C hfr hlo hce hsl hP1 hD1 hS1 hA hw1 hl hv.mono hs1 hX hZ (fun H2 locs2 ws2 ad2 ls2 pc2 i2 st2 stA2 a1 a2 a3 a4 a5 a6 a7 => hret H2 locs2 ws2 ([q] ++ ad2) ls2 pc2 i2 st2 stA2 a1 a2 (by rw [← List.append_assoc]; exact a3) (by rw [← List.append_assoc]; exact a4) a5 a6 a7))
    split at h
    · rename_i x hnt
      refine hnone (fun q => by rw [(pm_isw_none q (pm_ml T) lv st T scr ph).2.2.2.2.1] at hnt; cases hnt) (fun q => ?_)
      have hmono := pm_run_mono f h
      exact pm_nat_ok hx hb (hml.trans hl.1.symm) hown hts (by omega) (by omega) (by omega) (by omega) hnt (hd q) hs (fun stA2 h3 => ih _ _ _ _ _ _ _ _ _ _ _ _ _ _ h hg D p e R s m args below meth c H locs Q A H0 ws ad ls lvA stA2 C hfr hlo hce hsl hP hD hS hA hw hl hv h3 hX hZ hret)
    split at h
    · rename_i x hcp
      obtain ⟨st2, k2, e2⟩ := x
      refine hnone (fun q => by rw [(pm_isw_none q (pm_ml T) lv st T scr ph).2.2.2.2.2.1] at hcp; cases hcp) (fun q => ?_)
      exact pm_cpw_ok hx hb (hml.trans hl.1.symm) hown hts (by omega) (by omega) hK hP hD hS hw hcp (hd q) hs (fun H1 locs1 ws1 stA2 hP1 hD1 hS1 hw1 hs1 => ih _ _ _ _ _ _ _ _ _ _ _ _ _ _ h hg D p e R s m args below meth c H1 locs1 Q A H0 ws1 ad ls lvA stA2 C hfr hlo hce hsl hP1 hD1 hS1 hA hw1 hl hv hs1 hX hZ hret)
    split at h
    · rename_i v9 hrt
      refine hnone (fun q => by rw [(pm_isw_none q (pm_ml T) lv st T scr ph).2.2.2.2.2.2.1] at hrt; cases hrt) (fun q => ?_)
      cases h
      exact hret H locs ws [] ls pc i st stA hrt (hd q) (by rw [List.append_nil]; exact hs) (by rw [List.append_nil]; exact hw) hP hD hS
    cases d with
    | zero => cases h
    | succ d2 =>
      dsimp only at h
      split at h
      · cases h
      rename_i x hcal
      obtain ⟨T2, as, rest⟩ := x
      split at h
      · cases h
      rename_i y hrun
      obtain ⟨v2, ph3, c2, n2⟩ := y
      dsimp only at h hrun
      have hmono := pm_run_mono f h
      have hAf : ∀ q, va_A ws H.size q → A q := fun q z => z.elim (fun ⟨k, e9, h9⟩ => hD.2 k _ h9) (fun z => hA q (Nat.le_trans hS.1 z))
      have hZf : pm_Z bS (va_A ws H.size) s H := hZ.1.at hS.2.1 hAf
      have cont : ∀ (vA : Option Value) (ad2 : List Nat) (ws2 : va_W) (H1 : Heap) (locs1 : List Loc), pm_rov bS (ad ++ ad2) v2 vA → pm_rw bS (ad ++ ad2) s ph3 ws2 → va_P D pm_cl ws2 H1 → va_D A ws2 → va_S A H0 H1 locs1 → ∀ restA : List Value, pm_rs bS ad rest restA → W p l e R s m args below meth c H1 locs1 (nc + c2) (ns + n2) Q (F0 m (pc + pm_len i) ls (vA.toList ++ restA)) :=
        fun vA ad2 ws2 H1 locs1 a1 a2 a3 a4 a5 restA a6 => ih _ _ _ _ _ _ _ _ _ _ _ _ _ _ h hg D p e R s m args below meth c H1 locs1 Q A H0 ws2 (ad ++ ad2) ls lvA (vA.toList ++ restA) C hfr hlo hce hsl a3 a4 a5 hA a2 hl hv.mono (pm_rs_app (pm_rov_list a1) a6.mono) hX hZ (fun H2 locs2 ws3 ad3 ls2 pc2 i2 st2 stA2 b1 b2 b3 b4 b5 b6 b7 => hret H2 locs2 ws3 (ad2 ++ ad3) ls2 pc2 i2 st2 stA2 b1 b2 (by rw [← List.append_assoc]; exact b3) (by rw [← List.append_assoc]; exact b4) b5 b6 b7)
      cases i
      case invokevirtual idx =>
        obtain ⟨⟨k, M, p1, p2, p3⟩, m1, hcal⟩ := Option.bind_eq_some_iff.mp hcal
        obtain ⟨T3, m2, hcal⟩ := Option.bind_eq_some_iff.mp hcal
        dsimp only at hcal m2
        split at hcal
        · rename_i q hq
          obtain ⟨kq, rs⟩ := q
          dsimp only at hcal
          split at hcal
          · rename_i hc
            cases hcal
            obtain ⟨rfl, hkq, hsum, hsum2, hlen2, hps⟩ := hc
            have hT2 : T2 ∈ pm_tab := List.mem_of_getElem? m2
            have hdk := List.all_eq_true.mp pm_tab_gd _ hT2
            have htk := List.all_eq_true.mp pm_tab_gt _ hT2
            obtain ⟨-, -, t3⟩ := pm_tck_use htk
            have u1 := pm_tab_gk _ hT2 hps
            obtain ⟨u2, -, u4, u5, u6, u7⟩ := t3 hps
            have hck := pm_mr_ok m1
            unfold pm_mck at hck
            dsimp only at hck
            rw [m2] at hck
            dsimp only at hck
            simp only [Bool.and_eq_true, decide_eq_true_eq] at hck
            obtain ⟨⟨⟨c1, c3⟩, c4⟩, c5⟩ := hck
            have hst : st = st.take (pm_na T2) ++ (.retAddr (kq + 1) :: rest) := by rw [← pm_s2_ok hq]; exact (List.take_append_drop _ _).symm
            rw [hst] at hs
            obtain ⟨aA, bA, rfl, hsa, hsb⟩ := pm_rs_split hs
            obtain ⟨restA, rfl, hrest⟩ := pm_rs_s (by omega) hsb
            have has : pm_rs bS ad (.retAddr (kq + 1) :: (st.take (pm_na T2)).reverse) (.ref (bS (kq + 1)) :: aA.reverse) := ⟨Or.inl rfl, pm_rs_rev hsa⟩
            have hM := pm_met ih hrun hdk htk hps hsum2 (D := D) (ws := ws) (ad := ad) (sz := H.size) has
            have hrecv : ∃ cell : Cell, H[bS (kq + 1)]? = some cell ∧ cell.vm.isStatics = false ∧ s.vm.findClass (pm_nm T2).cls = some cell.cls := by
              have hO : va_O "java/lang/String" (bS (kq + 1)) (va_A ws H.size) s H := by
                rcases hkq with rfl | rfl
                · exact hZf.2.1.1
                · exact hZf.2.2.1.1
              obtain ⟨cell, z1, z2, z3, -⟩ := hO
              exact ⟨cell, z1, z2, by rw [c5]; exact z3⟩
            have hsumA : (restA.map fun v => v.category).sum ≤ 8 := by
              have := pm_rs_sum hrest
              unfold pm_sum at this hsum
              omega
            exact pm_callk (va_runV (As := aA.reverse) (rest := restA) (C := (pm_nm T2).cls) (b := bS (kq + 1)) (Ts := pm_tb) (own := pm_ow (pm_cn T)) ⟨hx, hb, hml, hown, hts⟩ hM ⟨callB_of (pm_na T2) hts (pm_goodIn u1) rfl rfl rfl (hts _ u2) (hts _ (pm_at_good c1 rfl)) ⟨u4, u5, u6⟩ ⟨hfr, by show 8 + (pm_ml T2 + 11) + 40 * (d2 + 1) ≤ _; omega⟩, hts _ (pm_at_good c3 rfl), hts _ (pm_at_good c4 rfl)⟩ ⟨pm_PC_blind, hrecv, pm_PC_pre hP hK hD hN hw hZf⟩ rfl (by rw [List.length_reverse, pm_rs_len hsa]; exact hlen2) hl.1 (by rw [List.reverse_reverse]) (lv_room hsumA) (hd rfl) ⟨by omega, by omega⟩) hS hAf (fun vA ad2 ws2 H1 locs1 a1 a2 a3 a4 a5 => cont vA ad2 ws2 H1 locs1 a1 a2 a3 a4 a5 restA hrest)
          · cases hcal
        obtain ⟨⟨b, rs⟩, m3, hcal⟩ := Option.bind_eq_some_iff.mp hcal
        obtain ⟨fs, m4, hcal⟩ := Option.bind_eq_some_iff.mp hcal
        dsimp only at hcal m4
        split at hcal
        · rename_i hc
          cases hcal
          obtain ⟨rfl, hsum, hsum2, hlen2, hps⟩ := hc
          have hT2 : T2 ∈ pm_tab := List.mem_of_getElem? m2
          have hdk := List.all_eq_true.mp pm_tab_gd _ hT2
          have htk := List.all_eq_true.mp pm_tab_gt _ hT2
          obtain ⟨-, -, t3⟩ := pm_tck_use htk
          have u1 := pm_tab_gk _ hT2 hps
          obtain ⟨u2, -, u4, u5, u6, u7⟩ := t3 hps
          have hck := pm_mr_ok m1
          unfold pm_mck at hck
          dsimp only at hck
          rw [m2] at hck
          dsimp only at hck
          simp only [Bool.and_eq_true, decide_eq_true_eq] at hck
          obtain ⟨⟨⟨c1, c3⟩, c4⟩, c5⟩ := hck
          have hst : st = st.take (pm_na T2) ++ (.ref b :: rest) := by rw [← pm_r1_ok m3]; exact (List.take_append_drop _ _).symm
          rw [hst] at hs
          obtain ⟨aA, bA, rfl, hsa, hsb⟩ := pm_rs_split hs
          obtain ⟨b', restA, hb', rfl, hrest⟩ := pm_rs_r hsb
          have has : pm_rs bS ad (.ref b :: (st.take (pm_na T2)).reverse) (.ref b' :: aA.reverse) := ⟨⟨b', hb', rfl⟩, pm_rs_rev hsa⟩
          have hM := pm_met ih hrun hdk htk hps hsum2 (D := D) (ws := ws) (ad := ad) (sz := H.size) has
          obtain ⟨e', he, hc9⟩ := hw.at (pm_ob_ok m4) hb'
          obtain ⟨fs', rfl, -⟩ := hc9
          obtain ⟨r9, hr9, -⟩ := hP b _ he
          have hcls : r9.1 = (pm_nm T2).cls := by
            rw [← c5, List.getD_eq_getElem?_getD, hr9]
            rfl
          have hrecv := va_recv hK hP hr9 he
          rw [hcls] at hrecv
          have hsumA : (restA.map fun v => v.category).sum ≤ 8 := by
            have := pm_rs_sum hrest
            unfold pm_sum at this hsum
            omega
          exact pm_callk (va_runV (As := aA.reverse) (rest := restA) (C := (pm_nm T2).cls) (b := b') (Ts := pm_tb) (own := pm_ow (pm_cn T)) ⟨hx, hb, hml, hown, hts⟩ hM ⟨callB_of (pm_na T2) hts (pm_goodIn u1) rfl rfl rfl (hts _ u2) (hts _ (pm_at_good c1 rfl)) ⟨u4, u5, u6⟩ ⟨hfr, by show 8 + (pm_ml T2 + 11) + 40 * (d2 + 1) ≤ _; omega⟩, hts _ (pm_at_good c3 rfl), hts _ (pm_at_good c4 rfl)⟩ ⟨pm_PC_blind, hrecv, pm_PC_pre hP hK hD hN hw hZf⟩ rfl (by rw [List.length_reverse, pm_rs_len hsa]; exact hlen2) hl.1 (by rw [List.reverse_reverse]) (lv_room hsumA) (hd rfl) ⟨by omega, by omega⟩) hS hAf (fun vA ad2 ws2 H1 locs1 a1 a2 a3 a4 a5 => cont vA ad2 ws2 H1 locs1 a1 a2 a3 a4 a5 restA hrest)
        · cases hcal
      case invokespecial idx =>
        obtain ⟨⟨k, M, p1, p2, p3⟩, m1, hcal⟩ := Option.bind_eq_some_iff.mp hcal
        obtain ⟨T3, m2, hcal⟩ := Option.bind_eq_some_iff.mp hcal
        obtain ⟨⟨b, rs⟩, m3, hcal⟩ := Option.bind_eq_some_iff.mp hcal
        dsimp only at hcal m2
        split at hcal
        · rename_i hc
          cases hcal
          obtain ⟨hk, hsum, hsum2, hlen2, hps⟩ := hc
          have hT2 : T2 ∈ pm_tab := List.mem_of_getElem? m2
          have hdk := List.all_eq_true.mp pm_tab_gd _ hT2
          have htk := List.all_eq_true.mp pm_tab_gt _ hT2
          obtain ⟨-, -, t3⟩ := pm_tck_use htk
          have u1 := pm_tab_gk _ hT2 hps
          obtain ⟨u2, -, u4, u5, u6, u7⟩ := t3 hps
          have hck := pm_mr_ok m1
          have hst : st = st.take (pm_na T2) ++ (.ref b :: rest) := by rw [← pm_r1_ok m3]; exact (List.take_append_drop _ _).symm
          rw [hst] at hs
          obtain ⟨aA, bA, rfl, hsa, hsb⟩ := pm_rs_split hs
          obtain ⟨b', restA, hb', rfl, hrest⟩ := pm_rs_r hsb
          have has : pm_rs bS ad (.ref b :: (st.take (pm_na T2)).reverse) (.ref b' :: aA.reverse) := ⟨⟨b', hb', rfl⟩, pm_rs_rev hsa⟩
          have hM := pm_met ih hrun hdk htk hps hsum2 (D := D) (ws := ws) (ad := ad) (sz := H.size) has
          have hsumA : (restA.map fun v => v.category).sum ≤ 8 := by
            have := pm_rs_sum hrest
            unfold pm_sum at this hsum
            omega
          rcases hk with rfl | rfl
          · unfold pm_mck at hck
            dsimp only at hck
            rw [m2] at hck
            dsimp only at hck
            simp only [Bool.and_eq_true, decide_eq_true_eq] at hck
            obtain ⟨⟨⟨c1, c3⟩, c4⟩, c5⟩ := hck
            exact pm_callk (va_runI (As := aA.reverse) (rest := restA) (b := b') (Ts := pm_tb) (own := pm_ow (pm_cn T)) ⟨hx, hb, hml, hown, hts⟩ hM ⟨callB_of (ws' := pm_tb) (pm_na T2) hts (pm_goodIn u1) (by rw [← c5]; rfl) rfl rfl (hts _ u2) (hts _ (pm_at_good c1 rfl)) ⟨u4, u5, u6⟩ ⟨hfr, by show 8 + (pm_ml T2 + 11) + 40 * (d2 + 1) ≤ _; omega⟩, c4, hts _ (pm_at_good c3 rfl)⟩ ⟨pm_PC_blind, pm_PC_pre hP hK hD hN hw hZf⟩ rfl (by rw [List.length_reverse, pm_rs_len hsa]; exact hlen2) hl.1 (by rw [List.reverse_reverse]) (lv_room hsumA) (hd rfl) ⟨by omega, by omega⟩) hS hAf (fun vA ad2 ws2 H1 locs1 a1 a2 a3 a4 a5 => cont vA ad2 ws2 H1 locs1 a1 a2 a3 a4 a5 restA hrest)
          · unfold pm_mck at hck
            dsimp only at hck
            rw [m2] at hck
            dsimp only at hck
            simp only [Bool.and_eq_true, decide_eq_true_eq] at hck
            obtain ⟨⟨⟨c1, c3⟩, c4⟩, c5⟩ := hck
            exact pm_callk (va_runIN (host := "LambdaShelf") (As := aA.reverse) (rest := restA) (b := b') (Ts := pm_tb) (own := pm_ow (pm_cn T)) ⟨hx, hb, hml, hown, hts⟩ hM ⟨va_cnB (ws' := pm_tb) (pm_na T2) hts (pm_goodIn u1) (by rw [← c5]; rfl) rfl rfl (hN.1 _ (pm_at_mem c1) rfl) (hts _ u2) ⟨u4, u5, u6⟩ ⟨hfr, by show 8 + (pm_ml T2 + 11) + 40 * (d2 + 1) ≤ _; omega⟩, c4, hts _ (pm_at_good c3 rfl)⟩ ⟨pm_PC_blind, pm_PC_pre hP hK hD hN hw hZf⟩ rfl (by rw [List.length_reverse, pm_rs_len hsa]; exact hlen2) hl.1 (by rw [List.reverse_reverse]) (lv_room hsumA) (hd rfl) ⟨by omega, by omega⟩) hS hAf (fun vA ad2 ws2 H1 locs1 a1 a2 a3 a4 a5 => cont vA ad2 ws2 H1 locs1 a1 a2 a3 a4 a5 restA hrest)
        · cases hcal
      case invokestatic idx =>
        obtain ⟨⟨k, M, p1, p2, p3⟩, m1, hcal⟩ := Option.bind_eq_some_iff.mp hcal
        obtain ⟨T3, m2, hcal⟩ := Option.bind_eq_some_iff.mp hcal
        dsimp only at hcal m2
        split at hcal
        · rename_i hc
          cases hcal
          obtain ⟨rfl, hsum, hsum2, hlen2, hps⟩ := hc
          have hT2 : T2 ∈ pm_tab := List.mem_of_getElem? m2
          have hdk := List.all_eq_true.mp pm_tab_gd _ hT2
          have htk := List.all_eq_true.mp pm_tab_gt _ hT2
          obtain ⟨-, -, t3⟩ := pm_tck_use htk
          have u1 := pm_tab_gk _ hT2 hps
          obtain ⟨u2, -, u4, u5, u6, u7⟩ := t3 hps
          have hck := pm_mr_ok m1
          unfold pm_mck at hck
          dsimp only at hck
          rw [m2] at hck
          dsimp only at hck
          simp only [Bool.and_eq_true, decide_eq_true_eq] at hck
          obtain ⟨c1, c3⟩ := hck
          have hst : st = st.take (pm_na T2) ++ st.drop (pm_na T2) := (List.take_append_drop _ _).symm
          rw [hst] at hs
          obtain ⟨aA, restA, rfl, hsa, hrest⟩ := pm_rs_split hs
          have has := pm_rs_rev hsa
          have hM := pm_met ih hrun hdk htk hps hsum2 (D := D) (ws := ws) (ad := ad) (sz := H.size) has
          have hsumA : (restA.map fun v => v.category).sum ≤ 8 := by
            have := pm_rs_sum hrest
            unfold pm_sum at this hsum
            omega
          exact pm_callk (va_runS (As := aA.reverse) (rest := restA) (Ts := pm_tb) (own := pm_ow (pm_cn T)) ⟨hx, hb, hml, hown, hts⟩ hM ⟨callB_of (pm_na T2) hts (pm_goodIn u1) rfl rfl rfl (hts _ u2) (hts _ (pm_at_good c1 rfl)) ⟨u4, u5, u6⟩ ⟨hfr, by show 8 + (pm_ml T2 + 11) + 40 * (d2 + 1) ≤ _; omega⟩, hts _ (pm_at_good c3 rfl)⟩ ⟨pm_PC_blind, pm_PC_pre hP hK hD hN hw hZf⟩ rfl (by rw [List.length_reverse, pm_rs_len hsa]; exact hlen2) hl.1 (by rw [List.reverse_reverse]) (lv_room hsumA) (hd rfl) ⟨by omega, by omega⟩) hS hAf (fun vA ad2 ws2 H1 locs1 a1 a2 a3 a4 a5 => cont vA ad2 ws2 H1 locs1 a1 a2 a3 a4 a5 restA hrest)
        · cases hcal
      all_goals exact nomatch (show (none : Option (pm_M × List Value × List Value)) = some (T2, as, rest) from hcal)
