/-! THE CLASS: freshTerm -/
theorem pm_i_aan {scr : Option (Nat × (Nat → Int32))} {d : Nat} {T : pm_M} {pc : Nat} {lv : pm_L} {st : List Value} {ph : List va_E} {nc ns : Nat} {Q : Option Value → List va_E → Nat → Nat → Prop} {len k n : Nat} {x : Int} {g : Nat → Option Nat} (h0 : pm_as (pm_cd T) pc = some (.aaload, len)) (hk : ph[k]? = some (.inl (3, n, .inr (.inr (.inr (.inr g)))))) (h1 : 0 ≤ x) (h2 : x < n) (h3 : in32 x) (hg : g x.toNat = none) (kk : pm_E scr d T (pc + 1) lv (.null :: st) ph nc ns Q) : pm_E scr d T pc lv (.int (iI x) :: .ref k :: st) ph nc ns Q :=
  pm_e_rd h0 rfl rfl (by
    show ((pm_ra ph k 3).bind fun w => (pm_ix (iI x) w.1).bind fun j => some (pm_vo (w.2 j) :: st)) = _
    unfold pm_ra
    rw [hk]
    dsimp only
    rw [if_pos rfl]
    show ((pm_ix (iI x) n).bind fun j => some (pm_vo (g j) :: st)) = _
    rw [pm_ix_I h1 h2 h3]
    show some (pm_vo (g x.toNat) :: st) = _
    rw [hg]
    rfl) kk
theorem cft_new {pl : Nat → Nat} {n i : Nat} (hi : i < 32) (hn : n ≠ 0) : va_up (cft pl) i (some n) = cft (plN pl n (6 + i)) := by
  funext q
  unfold va_up cft voo
  by_cases h : q = i
  · subst h
    rw [if_pos rfl, if_pos hi, show 72 + 2 * q = 60 + 2 * (6 + q) by omega, plN_0, if_neg hn]
  · rw [if_neg h]
    by_cases h9 : q < 32
    · rw [if_pos h9, if_pos h9, plN_o (by omega) (by omega)]
    · rw [if_neg h9, if_neg h9]
set_option maxHeartbeats 4000000 in
set_option maxRecDepth 100000 in
theorem C_fresh0 {d n : Nat} {kd pl : Nat → Nat} {s : Nat → Int} {a : Nat → Int → Int} {c : Nat → cdt} {M : List va_E} {Q : Option Value → List va_E → Nat → Nat → Prop} (hW : wf n kd pl) (h0 : s 0 = 32) (k : Q (some .null) (ch n kd pl s a c M) 0 0) : pm_E none (d + 1) pm_mm12 0 [(0, .ref (pl 0))] [] (ch n kd pl s a c M) 0 0 Q := by
  refine pm_e_sim pm_a12_0 rfl ?_
  show pm_E _ _ _ 1 [(0, .ref (pl 0))] [.ref (pl 0)] _ _ _ _
  refine pm_i_get pm_a12_1 rfl (cg_0 hW) rfl ?_
  show pm_E _ _ _ 4 [(0, .ref (pl 0))] [.int (iI (s 0))] _ _ _ _
  refine pm_i_lt (t := 19) pm_a12_4 rfl ⟨by omega, by omega⟩ (fun h_1 => ?_) (fun h_1 => ?_)
  · skip
    exfalso; omega
  · skip
    show pm_E _ _ _ 7 [(0, .ref (pl 0))] [] _ _ _ _
    refine pm_e_sim pm_a12_7 rfl ?_
    show pm_E _ _ _ 8 [(0, .ref (pl 0))] [.ref (pl 0)] _ _ _ _
    refine pm_i_get pm_a12_8 rfl (cg_0 hW) rfl ?_
    show pm_E _ _ _ 11 [(0, .ref (pl 0))] [.int (iI (s 0))] _ _ _ _
    refine pm_e_sim pm_a12_11 rfl ?_
    show pm_E _ _ _ 12 [(0, .ref (pl 0))] [.ref (pl 0), .int (iI (s 0))] _ _ _ _
    refine pm_i_get pm_a12_12 rfl (cg_0 hW) rfl ?_
    show pm_E _ _ _ 15 [(0, .ref (pl 0))] [.ref (pl 3), .int (iI (s 0))] _ _ _ _
    refine pm_i_alr pm_a12_15 (cg_3 hW) ?_
    show pm_E _ _ _ 16 [(0, .ref (pl 0))] [.int (iI 32), .int (iI (s 0))] _ _ _ _
    refine pm_c_lt (t := 21) pm_a12_16 rfl ⟨by omega, by omega⟩ ⟨by omega, by omega⟩ (fun h_2 => ?_) (fun h_2 => ?_)
    · skip
      exfalso; omega
    · skip
      show pm_E _ _ _ 19 [(0, .ref (pl 0))] [] _ _ _ _
      refine pm_e_sim pm_a12_19 rfl ?_
      show pm_E _ _ _ 20 [(0, .ref (pl 0))] [.null] _ _ _ _
      refine pm_e_ret pm_a12_20 rfl rfl rfl rfl rfl rfl rfl rfl ?_
      exact k
set_option maxHeartbeats 4000000 in
set_option maxRecDepth 100000 in
theorem C_fresh1 {d n : Nat} {kd pl : Nat → Nat} {s : Nat → Int} {a : Nat → Int → Int} {c : Nat → cdt} {M : List va_E} {Q : Option Value → List va_E → Nat → Nat → Prop} (hW : wf n kd pl) (h0 : 0 ≤ s 0) (h1 : s 0 < 32) (hal : al n kd pl (60 + 2 * (6 + (s 0).toNat))) (ho : okx (rm (6 + (s 0).toNat)) (c (6 + (s 0).toNat))) (k : ∀ x, md x (rm (6 + (s 0).toNat)) [] → Q (some (.ref (pl (60 + 2 * (6 + (s 0).toNat))))) (ch n kd pl s a (updC c (6 + (s 0).toNat) x) M) 0 0) : pm_E none (d + 1) pm_mm12 0 [(0, .ref (pl 0))] [] (ch n kd pl s a c M) 0 0 Q := by
  refine pm_e_sim pm_a12_0 rfl ?_
  show pm_E _ _ _ 1 [(0, .ref (pl 0))] [.ref (pl 0)] _ _ _ _
  refine pm_i_get pm_a12_1 rfl (cg_0 hW) rfl ?_
  show pm_E _ _ _ 4 [(0, .ref (pl 0))] [.int (iI (s 0))] _ _ _ _
  refine pm_i_lt (t := 19) pm_a12_4 rfl ⟨by omega, by omega⟩ (fun h_1 => ?_) (fun h_1 => ?_)
  · skip
    exfalso; omega
  · skip
    show pm_E _ _ _ 7 [(0, .ref (pl 0))] [] _ _ _ _
    refine pm_e_sim pm_a12_7 rfl ?_
    show pm_E _ _ _ 8 [(0, .ref (pl 0))] [.ref (pl 0)] _ _ _ _
    refine pm_i_get pm_a12_8 rfl (cg_0 hW) rfl ?_
    show pm_E _ _ _ 11 [(0, .ref (pl 0))] [.int (iI (s 0))] _ _ _ _
    refine pm_e_sim pm_a12_11 rfl ?_
    show pm_E _ _ _ 12 [(0, .ref (pl 0))] [.ref (pl 0), .int (iI (s 0))] _ _ _ _
    refine pm_i_get pm_a12_12 rfl (cg_0 hW) rfl ?_
    show pm_E _ _ _ 15 [(0, .ref (pl 0))] [.ref (pl 3), .int (iI (s 0))] _ _ _ _
    refine pm_i_alr pm_a12_15 (cg_3 hW) ?_
    show pm_E _ _ _ 16 [(0, .ref (pl 0))] [.int (iI 32), .int (iI (s 0))] _ _ _ _
    refine pm_c_lt (t := 21) pm_a12_16 rfl ⟨by omega, by omega⟩ ⟨by omega, by omega⟩ (fun h_2 => ?_) (fun h_2 => ?_)
    · skip
      show pm_E _ _ _ 21 [(0, .ref (pl 0))] [] _ _ _ _
      refine pm_e_sim pm_a12_21 rfl ?_
      show pm_E _ _ _ 22 [(0, .ref (pl 0))] [.ref (pl 0)] _ _ _ _
      refine pm_i_get pm_a12_22 rfl (cg_0 hW) rfl ?_
      show pm_E _ _ _ 25 [(0, .ref (pl 0))] [.ref (pl 3)] _ _ _ _
      refine pm_e_sim pm_a12_25 rfl ?_
      show pm_E _ _ _ 26 [(0, .ref (pl 0))] [.ref (pl 0), .ref (pl 3)] _ _ _ _
      refine pm_i_get pm_a12_26 rfl (cg_0 hW) rfl ?_
      show pm_E _ _ _ 29 [(0, .ref (pl 0))] [.int (iI (s 0)), .ref (pl 3)] _ _ _ _
      refine pm_i_aal pm_a12_29 (cg_3 hW) (by omega) (by omega) ⟨by omega, by omega⟩ (cft_al hW (by omega) hal) ?_
      show pm_E _ _ _ 30 [(0, .ref (pl 0))] [.ref (pl (60 + 2 * (6 + (s 0).toNat)))] _ _ _ _
      refine pm_e_sim pm_a12_30 rfl ?_
      show pm_E _ _ _ 31 [(0, .ref (pl 0)), (1, .ref (pl (60 + 2 * (6 + (s 0).toNat))))] [] _ _ _ _
      refine pm_e_sim pm_a12_31 rfl ?_
      show pm_E _ _ _ 32 [(0, .ref (pl 0)), (1, .ref (pl (60 + 2 * (6 + (s 0).toNat))))] [.ref (pl (60 + 2 * (6 + (s 0).toNat)))] _ _ _ _
      refine pm_e_jmp pm_a12_32 rfl rfl ?_
      show pm_E _ _ _ 56 [(0, .ref (pl 0)), (1, .ref (pl (60 + 2 * (6 + (s 0).toNat))))] [] _ _ _ _
      refine pm_e_sim pm_a12_56 rfl ?_
      show pm_E _ _ _ 57 [(0, .ref (pl 0)), (1, .ref (pl (60 + 2 * (6 + (s 0).toNat))))] [.ref (pl (60 + 2 * (6 + (s 0).toNat)))] _ _ _ _
      refine pm_i_callv (k := (pl (60 + 2 * (6 + (s 0).toNat)))) (T2 := pm_mm13) pm_a12_57 rfl rfl rfl (cg_o ⟨by omega, hal⟩) ⟨Nat.le_of_ble_eq_true rfl, Nat.le_of_ble_eq_true rfl, rfl, by decide +kernel⟩ ?_
      show pm_E none _ _ 0 [(0, .ref (pl (60 + 2 * (6 + (s 0).toNat))))] [] _ _ _ _
      refine C_clear hW ⟨by omega, hal⟩ ho (fun x hx => ?_)
      show pm_E _ _ _ 60 [(0, .ref (pl 0)), (1, .ref (pl (60 + 2 * (6 + (s 0).toNat))))] [] _ _ _ _
      refine pm_e_sim pm_a12_60 rfl ?_
      show pm_E _ _ _ 61 [(0, .ref (pl 0)), (1, .ref (pl (60 + 2 * (6 + (s 0).toNat))))] [.ref (pl (60 + 2 * (6 + (s 0).toNat)))] _ _ _ _
      refine pm_e_ret pm_a12_61 rfl rfl rfl rfl rfl rfl rfl rfl ?_
      exact k x hx
    · skip
      exfalso; omega
set_option maxHeartbeats 4000000 in
set_option maxRecDepth 100000 in
theorem C_fresh2 {d n : Nat} {kd pl : Nat → Nat} {s : Nat → Int} {a : Nat → Int → Int} {c : Nat → cdt} {M : List va_E} {Q : Option Value → List va_E → Nat → Nat → Prop} (hW : wf n kd pl) (h0 : 0 ≤ s 0) (h1 : s 0 < 32) (hno : pl (60 + 2 * (6 + (s 0).toNat)) = 0) (hno1 : pl (61 + 2 * (6 + (s 0).toNat)) = 0) (k : ∀ x, md x (rm (6 + (s 0).toNat)) [] → Q (some (.ref (plN pl n (6 + (s 0).toNat) (60 + 2 * (6 + (s 0).toNat))))) (ch (n + 2) (kdN kd n (6 + (s 0).toNat)) (plN pl n (6 + (s 0).toNat)) s a (updC c (6 + (s 0).toNat) x) M) 2 503) : pm_E none (d + 1) pm_mm12 0 [(0, .ref (pl 0))] [] (ch n kd pl s a c M) 0 0 Q := by
  refine pm_e_sim pm_a12_0 rfl ?_
  show pm_E _ _ _ 1 [(0, .ref (pl 0))] [.ref (pl 0)] _ _ _ _
  refine pm_i_get pm_a12_1 rfl (cg_0 hW) rfl ?_
  show pm_E _ _ _ 4 [(0, .ref (pl 0))] [.int (iI (s 0))] _ _ _ _
  refine pm_i_lt (t := 19) pm_a12_4 rfl ⟨by omega, by omega⟩ (fun h_1 => ?_) (fun h_1 => ?_)
  · skip
    exfalso; omega
  · skip
    show pm_E _ _ _ 7 [(0, .ref (pl 0))] [] _ _ _ _
    refine pm_e_sim pm_a12_7 rfl ?_
    show pm_E _ _ _ 8 [(0, .ref (pl 0))] [.ref (pl 0)] _ _ _ _
    refine pm_i_get pm_a12_8 rfl (cg_0 hW) rfl ?_
    show pm_E _ _ _ 11 [(0, .ref (pl 0))] [.int (iI (s 0))] _ _ _ _
    refine pm_e_sim pm_a12_11 rfl ?_
    show pm_E _ _ _ 12 [(0, .ref (pl 0))] [.ref (pl 0), .int (iI (s 0))] _ _ _ _
    refine pm_i_get pm_a12_12 rfl (cg_0 hW) rfl ?_
    show pm_E _ _ _ 15 [(0, .ref (pl 0))] [.ref (pl 3), .int (iI (s 0))] _ _ _ _
    refine pm_i_alr pm_a12_15 (cg_3 hW) ?_
    show pm_E _ _ _ 16 [(0, .ref (pl 0))] [.int (iI 32), .int (iI (s 0))] _ _ _ _
    refine pm_c_lt (t := 21) pm_a12_16 rfl ⟨by omega, by omega⟩ ⟨by omega, by omega⟩ (fun h_2 => ?_) (fun h_2 => ?_)
    · skip
      show pm_E _ _ _ 21 [(0, .ref (pl 0))] [] _ _ _ _
      refine pm_e_sim pm_a12_21 rfl ?_
      show pm_E _ _ _ 22 [(0, .ref (pl 0))] [.ref (pl 0)] _ _ _ _
      refine pm_i_get pm_a12_22 rfl (cg_0 hW) rfl ?_
      show pm_E _ _ _ 25 [(0, .ref (pl 0))] [.ref (pl 3)] _ _ _ _
      refine pm_e_sim pm_a12_25 rfl ?_
      show pm_E _ _ _ 26 [(0, .ref (pl 0))] [.ref (pl 0), .ref (pl 3)] _ _ _ _
      refine pm_i_get pm_a12_26 rfl (cg_0 hW) rfl ?_
      show pm_E _ _ _ 29 [(0, .ref (pl 0))] [.int (iI (s 0)), .ref (pl 3)] _ _ _ _
      refine pm_i_aan pm_a12_29 (cg_3 hW) (by omega) (by omega) ⟨by omega, by omega⟩ (by unfold cft voo; rw [if_pos (by omega), show 72 + 2 * (s 0).toNat = 60 + 2 * (6 + (s 0).toNat) by omega, hno, if_pos rfl]) ?_
      show pm_E _ _ _ 30 [(0, .ref (pl 0))] [.null] _ _ _ _
      refine pm_e_sim pm_a12_30 rfl ?_
      show pm_E _ _ _ 31 [(0, .ref (pl 0)), (1, .null)] [] _ _ _ _
      refine pm_e_sim pm_a12_31 rfl ?_
      show pm_E _ _ _ 32 [(0, .ref (pl 0)), (1, .null)] [.null] _ _ _ _
      refine pm_e_jmp pm_a12_32 rfl rfl ?_
      show pm_E _ _ _ 35 [(0, .ref (pl 0)), (1, .null)] [] _ _ _ _
      have hl : (ch n kd pl s a c M).length = n := by unfold ch; rw [List.length_map, List.length_range]
      have p0 := (hW.2.1 0 (by decide)).1
      have p3 := (hW.2.1 3 (by decide)).1
      refine pm_e_nw (e2 := .inr (1, [.null, .int 0, .int 0])) (n2 := 3) (st2 := []) pm_a12_35 rfl rfl rfl rfl rfl rfl hl ?_
      show pm_E _ _ _ 38 [(0, .ref (pl 0)), (1, .null)] [.ref n] _ _ _ _
      refine pm_e_sim pm_a12_38 rfl ?_
      refine pm_e_sim pm_a12_39 rfl ?_
      refine pm_e_top (y := iI 500) (by decide +kernel) ?_
      show pm_E _ _ _ 42 [(0, .ref (pl 0)), (1, .null)] [.int (iI 500), .ref n, .ref n] _ _ _ _
      refine pm_e_call (T2 := pm_mm3) pm_a12_42 rfl rfl rfl rfl rfl rfl rfl rfl rfl ?_
      show pm_E none _ _ 0 [(0, .ref n), (1, .int (iI 500))] [] _ _ _ _
      refine C_init5 (L := n + 1) (by rw [List.getElem?_append_right (by omega), hl, show n - n = 0 by omega]; rfl) (by rw [List.length_append, hl]; rfl) ?_
      have e1 : ((ch n kd pl s a c M ++ ([.inr (1, [.null, .int 0, .int 0])] : List va_E)) ++ ([.inl (0, 500, .inl (fun _ => 0))] : List va_E)).set n (.inr (1, [.ref (n + 1), .int 0, .int 0])) = ch n kd pl s a c M ++ ([.inr (1, [.ref (n + 1), .int 0, .int 0]), .inl (0, 500, .inl (fun _ => 0))] : List va_E) := by
        rw [List.append_assoc, List.set_append_right _ _ (by omega), hl, show n - n = 0 by omega]
        rfl
      rw [e1]
      show pm_E _ _ _ 45 [(0, .ref (pl 0)), (1, .null)] [.ref n] _ _ _ _
      have g0 : (ch n kd pl s a c M ++ ([.inr (1, [.ref (n + 1), .int 0, .int 0]), .inl (0, 500, .inl (fun _ => 0))] : List va_E))[pl 0]? = some (.inr (8, cf0 pl s)) := by rw [List.getElem?_append_left (by omega)]; exact cg_0 hW
      have g3 : (ch n kd pl s a c M ++ ([.inr (1, [.ref (n + 1), .int 0, .int 0]), .inl (0, 500, .inl (fun _ => 0))] : List va_E))[pl 3]? = some (.inl (3, 32, .inr (.inr (.inr (.inr (cft pl)))))) := by rw [List.getElem?_append_left (by omega)]; exact cg_3 hW
      have gn : (ch n kd pl s a c M ++ ([.inr (1, [.ref (n + 1), .int 0, .int 0]), .inl (0, 500, .inl (fun _ => 0))] : List va_E))[n]? = some (.inr (1, [.ref (n + 1), .int 0, .int 0])) := by rw [List.getElem?_append_right (by omega), hl, show n - n = 0 by omega]; rfl
      refine pm_e_sim pm_a12_45 rfl ?_
      refine pm_e_sim pm_a12_46 rfl ?_
      show pm_E _ _ _ 47 [(0, .ref (pl 0)), (1, .ref n)] [.ref (pl 0)] _ _ _ _
      refine pm_i_get pm_a12_47 rfl g0 rfl ?_
      show pm_E _ _ _ 50 [(0, .ref (pl 0)), (1, .ref n)] [.ref (pl 3)] _ _ _ _
      refine pm_e_sim pm_a12_50 rfl ?_
      show pm_E _ _ _ 51 [(0, .ref (pl 0)), (1, .ref n)] [.ref (pl 0), .ref (pl 3)] _ _ _ _
      refine pm_i_get pm_a12_51 rfl g0 rfl ?_
      show pm_E _ _ _ 54 [(0, .ref (pl 0)), (1, .ref n)] [.int (iI (s 0)), .ref (pl 3)] _ _ _ _
      refine pm_e_sim pm_a12_54 rfl ?_
      show pm_E _ _ _ 55 [(0, .ref (pl 0)), (1, .ref n)] [.ref n, .int (iI (s 0)), .ref (pl 3)] _ _ _ _
      refine pm_i_aas (ph1 := ch (n + 2) (kdN kd n (6 + (s 0).toNat)) (plN pl n (6 + (s 0).toNat)) s a (updC c (6 + (s 0).toNat) (0, 0, fun _ => 0)) M) pm_a12_55 g3 (by omega) (by omega) ⟨by omega, by omega⟩ gn (by rw [cft_new (by omega) (by omega)]; exact ch_new hW ⟨by omega, by omega⟩ hno hno1) ?_
      refine pm_e_sim pm_a12_56 rfl ?_
      have hW2 := wf_new hW (j := 6 + (s 0).toNat) ⟨by omega, by omega⟩ hno hno1
      have hpl : n = plN pl n (6 + (s 0).toNat) (60 + 2 * (6 + (s 0).toNat)) := plN_0.symm
      generalize hkd : kdN kd n (6 + (s 0).toNat) = kd2 at hW2 k ⊢
      generalize hpp : plN pl n (6 + (s 0).toNat) = pl2 at hW2 hpl k ⊢
      have hal : al (n + 2) kd2 pl2 (60 + 2 * (6 + (s 0).toNat)) := by rw [← hkd, ← hpp]; exact al_n0
      show pm_E _ _ _ 57 [(0, .ref (pl 0)), (1, .ref n)] [.ref n] _ _ _ _
      rw [show (Value.ref n) = .ref (pl2 (60 + 2 * (6 + (s 0).toNat))) by rw [← hpl]]
      refine pm_i_callv (k := pl2 (60 + 2 * (6 + (s 0).toNat))) (T2 := pm_mm13) pm_a12_57 rfl rfl rfl (cg_o ⟨by omega, hal⟩) ⟨Nat.le_of_ble_eq_true rfl, Nat.le_of_ble_eq_true rfl, rfl, by decide +kernel⟩ ?_
      show pm_E none _ _ 0 [(0, .ref (pl2 (60 + 2 * (6 + (s 0).toNat))))] [] _ _ _ _
      refine C_clear hW2 ⟨by omega, hal⟩ (by rw [updC_at]; exact ⟨by decide, by show (0 : Int) ≤ _; omega, Or.inl rfl, fun _ => by show in32 0; decide⟩) (fun x hx => ?_)
      rw [updC_s]
      show pm_E _ _ _ 60 [(0, .ref (pl 0)), (1, .ref (pl2 (60 + 2 * (6 + (s 0).toNat))))] [] _ _ _ _
      refine pm_e_sim pm_a12_60 rfl ?_
      refine pm_e_ret pm_a12_61 rfl rfl rfl rfl rfl rfl rfl rfl ?_
      exact k x hx
    · skip
      exfalso; omega
