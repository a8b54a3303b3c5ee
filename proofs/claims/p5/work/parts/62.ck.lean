/-! THE CLASS: termAt, size, code, redex, redexes, step, same, number -/
section PMK
variable {scr : Option (Nat × (Nat → Int32))} {d : Nat} {T : pm_M} {pc : Nat} {lv : pm_L} {st : List Value} {ph : List va_E} {nc ns : Nat} {Q : Option Value → List va_E → Nat → Nat → Prop} {len k n p : Nat} {x : Int} {g : Nat → Option Nat}
theorem pm_i_aal (h0 : pm_as (pm_cd T) pc = some (.aaload, len)) (hk : ph[k]? = some (.inl (3, n, .inr (.inr (.inr (.inr g)))))) (h1 : 0 ≤ x) (h2 : x < n) (h3 : in32 x) (hg : g x.toNat = some p) (kk : pm_E scr d T (pc + 1) lv (.ref p :: st) ph nc ns Q) : pm_E scr d T pc lv (.int (iI x) :: .ref k :: st) ph nc ns Q :=
  pm_e_rd h0 rfl rfl (by
    show ((pm_ra ph k 3).bind fun w => (pm_ix (iI x) w.1).bind fun j => some (pm_vo (w.2 j) :: st)) = _
    unfold pm_ra
    rw [hk]
    dsimp only
    rw [if_pos rfl]
    show ((pm_ix (iI x) n).bind fun j => some (pm_vo (g j) :: st)) = _
    rw [pm_ix_I h1 h2 h3]
    show some (pm_vo (g x.toNat) :: st) = _
    rw [hg]
    rfl) kk
end PMK
theorem cft_al {n : Nat} {kd pl : Nat → Nat} (hW : wf n kd pl) {i : Nat} (hi : i < 32) (h : al n kd pl (60 + 2 * (6 + i))) : cft pl i = some (pl (60 + 2 * (6 + i))) := by
  unfold cft voo
  rw [if_pos hi, show 72 + 2 * i = 60 + 2 * (6 + i) by omega, if_neg (fun h0 => ?_)]
  have h2 := h.2
  have h3 := (hW.2.1 0 (by decide)).2
  have h4 := hW.2.2.2.2.2.2
  rw [h0] at h2
  rw [h4] at h3
  omega
/-- the class's shelf: N terms, T t the code of the t-th -/
def cS (n : Nat) (kd pl : Nat → Nat) (s : Nat → Int) (c : Nat → cdt) (N : Int) (T : Int → List Int) : Prop := s 0 = N ∧ 0 ≤ N ∧ N ≤ 32 ∧ ∀ t, 0 ≤ t → t < N → al n kd pl (60 + 2 * (6 + t.toNat)) ∧ md (c (6 + t.toNat)) (rm (6 + t.toNat)) (T t)
theorem like_t {y z : cdt} {l l' : List Int} (h1 : y.1 = l.length) (g1 : rg y.2.2 l.length 0 = l) (h2 : z.1 = l'.length) (g2 : rg z.2.2 l'.length 0 = l') (e : y.1 = z.1) (ha : ∀ q, 0 ≤ q → q < y.1 → atI y q = atI z q) : l = l' := by
  have hl : l.length = l'.length := by omega
  have h3 : rg z.2.2 l.length 0 = rg y.2.2 l.length 0 := rg_eq (fun j z0 z1 => by
    have h4 := ha j z0 (by omega)
    rw [atI_y z0 (by omega), atI_y z0 (by omega)] at h4
    exact h4.symm)
  calc l = rg y.2.2 l.length 0 := g1.symm
    _ = rg z.2.2 l.length 0 := h3.symm
    _ = rg z.2.2 l'.length 0 := by rw [hl]
    _ = l' := g2
theorem like_f {y z : cdt} {l l' : List Int} (h1 : y.1 = l.length) (g1 : rg y.2.2 l.length 0 = l) (h2 : z.1 = l'.length) (g2 : rg z.2.2 l'.length 0 = l') (h : y.1 ≠ z.1 ∨ ∃ q, 0 ≤ q ∧ q < y.1 ∧ atI y q ≠ atI z q) : l ≠ l' := by
  intro e
  subst e
  rcases h with h | ⟨q, q0, q1, q2⟩
  · omega
  · refine q2 ?_
    rw [atI_y q0 q1, atI_y q0 (by omega)]
    exact (rg_same g1 g2 q q0 (by omega)).symm
set_option maxHeartbeats 4000000 in
set_option maxRecDepth 100000 in
theorem C_termAt {d n : Nat} {kd pl : Nat → Nat} {s : Nat → Int} {a : Nat → Int → Int} {c : Nat → cdt} {M : List va_E} {Q : Option Value → List va_E → Nat → Nat → Prop} {N : Int} {T : Int → List Int} {t : Int} (hW : wf n kd pl) (hS : cS n kd pl s c N T) (ht : in32 t) (k1 : 0 ≤ t → t < N → ∀ j, j = 6 + t.toNat → (j < 38 ∧ al n kd pl (60 + 2 * j)) → md (c j) (rm j) (T t) → Q (some (.ref (pl (60 + 2 * j)))) (ch n kd pl s a c M) 0 0) (k0 : t < 0 ∨ N ≤ t → Q (some .null) (ch n kd pl s a c M) 0 0) : pm_E none d pm_mm45 0 [(0, .ref (pl 0)), (1, .int (iI t))] [] (ch n kd pl s a c M) 0 0 Q := by
  obtain ⟨hS1, hS2, hS3, hS4⟩ := id hS
  subst hS1
  obtain ⟨_, _⟩ := id ht
  refine pm_e_sim pm_a45_0 rfl ?_
  show pm_E _ _ _ 1 [(0, .ref (pl 0)), (1, .int (iI t))] [.int (iI t)] _ _ _ _
  refine pm_i_lt (t := 30) pm_a45_1 rfl ⟨by omega, by omega⟩ (fun h_1 => ?_) (fun h_1 => ?_)
  · skip
    show pm_E _ _ _ 30 [(0, .ref (pl 0)), (1, .int (iI t))] [] _ _ _ _
    refine pm_e_sim pm_a45_30 rfl ?_
    show pm_E _ _ _ 31 [(0, .ref (pl 0)), (1, .int (iI t))] [.null] _ _ _ _
    refine pm_e_ret pm_a45_31 rfl rfl rfl rfl rfl rfl rfl rfl ?_
    exact k0 (by omega)
  · skip
    show pm_E _ _ _ 4 [(0, .ref (pl 0)), (1, .int (iI t))] [] _ _ _ _
    refine pm_e_sim pm_a45_4 rfl ?_
    show pm_E _ _ _ 5 [(0, .ref (pl 0)), (1, .int (iI t))] [.int (iI t)] _ _ _ _
    refine pm_e_sim pm_a45_5 rfl ?_
    show pm_E _ _ _ 6 [(0, .ref (pl 0)), (1, .int (iI t))] [.ref (pl 0), .int (iI t)] _ _ _ _
    refine pm_i_get pm_a45_6 rfl (cg_0 hW) rfl ?_
    show pm_E _ _ _ 9 [(0, .ref (pl 0)), (1, .int (iI t))] [.int (iI (s 0)), .int (iI t)] _ _ _ _
    refine pm_c_ge (t := 30) pm_a45_9 rfl ⟨by omega, by omega⟩ ⟨by omega, by omega⟩ (fun h_2 => ?_) (fun h_2 => ?_)
    · skip
      show pm_E _ _ _ 30 [(0, .ref (pl 0)), (1, .int (iI t))] [] _ _ _ _
      refine pm_e_sim pm_a45_30 rfl ?_
      show pm_E _ _ _ 31 [(0, .ref (pl 0)), (1, .int (iI t))] [.null] _ _ _ _
      refine pm_e_ret pm_a45_31 rfl rfl rfl rfl rfl rfl rfl rfl ?_
      exact k0 (by omega)
    · skip
      show pm_E _ _ _ 12 [(0, .ref (pl 0)), (1, .int (iI t))] [] _ _ _ _
      refine pm_e_sim pm_a45_12 rfl ?_
      show pm_E _ _ _ 13 [(0, .ref (pl 0)), (1, .int (iI t))] [.int (iI t)] _ _ _ _
      refine pm_e_sim pm_a45_13 rfl ?_
      show pm_E _ _ _ 14 [(0, .ref (pl 0)), (1, .int (iI t))] [.ref (pl 0), .int (iI t)] _ _ _ _
      refine pm_i_get pm_a45_14 rfl (cg_0 hW) rfl ?_
      show pm_E _ _ _ 17 [(0, .ref (pl 0)), (1, .int (iI t))] [.ref (pl 3), .int (iI t)] _ _ _ _
      refine pm_i_alr pm_a45_17 (cg_3 hW) ?_
      show pm_E _ _ _ 18 [(0, .ref (pl 0)), (1, .int (iI t))] [.int (iI 32), .int (iI t)] _ _ _ _
      refine pm_c_ge (t := 30) pm_a45_18 rfl ⟨by omega, by omega⟩ ⟨by omega, by omega⟩ (fun h_3 => ?_) (fun h_3 => ?_)
      · skip
        exfalso; omega
      · skip
        show pm_E _ _ _ 21 [(0, .ref (pl 0)), (1, .int (iI t))] [] _ _ _ _
        refine pm_e_sim pm_a45_21 rfl ?_
        show pm_E _ _ _ 22 [(0, .ref (pl 0)), (1, .int (iI t))] [.ref (pl 0)] _ _ _ _
        refine pm_i_get pm_a45_22 rfl (cg_0 hW) rfl ?_
        show pm_E _ _ _ 25 [(0, .ref (pl 0)), (1, .int (iI t))] [.ref (pl 3)] _ _ _ _
        refine pm_e_sim pm_a45_25 rfl ?_
        show pm_E _ _ _ 26 [(0, .ref (pl 0)), (1, .int (iI t))] [.int (iI t), .ref (pl 3)] _ _ _ _
        have hal := (hS4 t (by omega) (by omega)).1
        refine pm_i_aal pm_a45_26 (cg_3 hW) (by omega) (by omega) ⟨by omega, by omega⟩ (cft_al hW (by omega) hal) ?_
        show pm_E _ _ _ 27 [(0, .ref (pl 0)), (1, .int (iI t))] [.ref (pl (60 + 2 * (6 + t.toNat)))] _ _ _ _
        refine pm_e_goto pm_a45_27 rfl ?_
        show pm_E _ _ _ 31 [(0, .ref (pl 0)), (1, .int (iI t))] [.ref (pl (60 + 2 * (6 + t.toNat)))] _ _ _ _
        refine pm_e_ret pm_a45_31 rfl rfl rfl rfl rfl rfl rfl rfl ?_
        exact k1 (by omega) (by omega) _ rfl ⟨by omega, hal⟩ (hS4 t (by omega) (by omega)).2
set_option maxHeartbeats 4000000 in
set_option maxRecDepth 100000 in
theorem C_size {d n : Nat} {kd pl : Nat → Nat} {s : Nat → Int} {a : Nat → Int → Int} {c : Nat → cdt} {M : List va_E} {Q : Option Value → List va_E → Nat → Nat → Prop} {N : Int} {T : Int → List Int} {t : Int} (hW : wf n kd pl) (hS : cS n kd pl s c N T) (hT : ∀ t, 0 ≤ t → t < N → (T t).length ≤ 500 ∧ ∃ f, tL f 0 (T t)) (ht : in32 t) (kb : (t < 0 ∨ N ≤ t) → Q (some (.int (iI (-1)))) (ch n kd pl s a c M) 0 0) (k : 0 ≤ t → t < N → Q (some (.int (iI ((T t).length)))) (ch n kd pl s a c M) 0 0) : pm_E none (d + 1) pm_mm44 0 [(0, .ref (pl 0)), (1, .int (iI t))] [] (ch n kd pl s a c M) 0 0 Q := by
  obtain ⟨hS1, hS2, hS3, hS4⟩ := id hS
  obtain ⟨_, _⟩ := id ht
  refine pm_e_sim pm_a44_0 rfl ?_
  show pm_E _ _ _ 1 [(0, .ref (pl 0)), (1, .int (iI t))] [.ref (pl 0)] _ _ _ _
  refine pm_e_sim pm_a44_1 rfl ?_
  show pm_E _ _ _ 2 [(0, .ref (pl 0)), (1, .int (iI t))] [.int (iI t), .ref (pl 0)] _ _ _ _
  refine pm_i_callv (k := (pl 0)) (T2 := pm_mm45) pm_a44_2 rfl rfl rfl (cg_0 hW) ⟨Nat.le_of_ble_eq_true rfl, Nat.le_of_ble_eq_true rfl, rfl, by decide +kernel⟩ ?_
  show pm_E none _ _ 0 [(0, .ref (pl 0)), (1, .int (iI t))] [] _ _ _ _
  refine C_termAt hW hS ⟨by omega, by omega⟩ (fun t0j t1j j ej hj lj => ?_) (fun t9j => ?_)
  · skip
    have rbj := rm_b j
    have rmj : rm j = 500 := if_neg (by omega)
    obtain ⟨hlj, _⟩ := hT t (by omega) (by omega)
    obtain ⟨ovj, zj, gj⟩ : (c j).2.1 = 0 ∧ (c j).1 = (T t).length ∧ rg (c j).2.2 (T t).length 0 = T t := by rcases lj.2 with ⟨_, h1, h2, h3⟩ | ⟨h, _⟩; exact ⟨h1, h2, h3⟩; omega
    show pm_E _ _ _ 5 [(0, .ref (pl 0)), (1, .int (iI t))] [.ref (pl (60 + 2 * j))] _ _ _ _
    refine pm_e_sim pm_a44_5 rfl ?_
    show pm_E _ _ _ 6 [(0, .ref (pl 0)), (1, .int (iI t)), (2, .ref (pl (60 + 2 * j)))] [] _ _ _ _
    refine pm_e_sim pm_a44_6 rfl ?_
    show pm_E _ _ _ 7 [(0, .ref (pl 0)), (1, .int (iI t)), (2, .ref (pl (60 + 2 * j)))] [.ref (pl (60 + 2 * j))] _ _ _ _
    refine pm_e_jmp pm_a44_7 rfl rfl ?_
    show pm_E _ _ _ 14 [(0, .ref (pl 0)), (1, .int (iI t)), (2, .ref (pl (60 + 2 * j)))] [] _ _ _ _
    refine pm_e_sim pm_a44_14 rfl ?_
    show pm_E _ _ _ 15 [(0, .ref (pl 0)), (1, .int (iI t)), (2, .ref (pl (60 + 2 * j)))] [.ref (pl (60 + 2 * j))] _ _ _ _
    refine pm_i_get pm_a44_15 rfl (cg_o hj) rfl ?_
    show pm_E _ _ _ 18 [(0, .ref (pl 0)), (1, .int (iI t)), (2, .ref (pl (60 + 2 * j)))] [.int (iI ((c j).1))] _ _ _ _
    refine pm_e_ret pm_a44_18 rfl rfl rfl rfl rfl rfl rfl rfl ?_
    rw [zj]
    exact k (by omega) (by omega)
  · skip
    show pm_E _ _ _ 5 [(0, .ref (pl 0)), (1, .int (iI t))] [.null] _ _ _ _
    refine pm_e_sim pm_a44_5 rfl ?_
    show pm_E _ _ _ 6 [(0, .ref (pl 0)), (1, .int (iI t)), (2, .null)] [] _ _ _ _
    refine pm_e_sim pm_a44_6 rfl ?_
    show pm_E _ _ _ 7 [(0, .ref (pl 0)), (1, .int (iI t)), (2, .null)] [.null] _ _ _ _
    refine pm_e_jmp pm_a44_7 rfl rfl ?_
    show pm_E _ _ _ 10 [(0, .ref (pl 0)), (1, .int (iI t)), (2, .null)] [] _ _ _ _
    refine pm_e_sim pm_a44_10 rfl ?_
    refine pm_e_top (y := iI (-1)) (by decide +kernel) ?_
    show pm_E _ _ _ 11 [(0, .ref (pl 0)), (1, .int (iI t)), (2, .null)] [.int (iI (-1))] _ _ _ _
    refine pm_e_goto pm_a44_11 rfl ?_
    show pm_E _ _ _ 18 [(0, .ref (pl 0)), (1, .int (iI t)), (2, .null)] [.int (iI (-1))] _ _ _ _
    refine pm_e_ret pm_a44_18 rfl rfl rfl rfl rfl rfl rfl rfl ?_
    exact kb (by omega)
set_option maxHeartbeats 4000000 in
set_option maxRecDepth 100000 in
theorem C_code {d n : Nat} {kd pl : Nat → Nat} {s : Nat → Int} {a : Nat → Int → Int} {c : Nat → cdt} {M : List va_E} {Q : Option Value → List va_E → Nat → Nat → Prop} {N : Int} {T : Int → List Int} {t i : Int} (hW : wf n kd pl) (hS : cS n kd pl s c N T) (hT : ∀ t, 0 ≤ t → t < N → (T t).length ≤ 500 ∧ ∃ f, tL f 0 (T t)) (ht : in32 t) (hi : in32 i) (kb : (t < 0 ∨ N ≤ t) → Q (some (.int (iI (-1)))) (ch n kd pl s a c M) 0 0) (k : 0 ≤ t → t < N → ∀ r, (0 ≤ i → i < (T t).length → ∃ g : Int → Int, rg g (T t).length 0 = T t ∧ r = g i) → ((i < 0 ∨ (T t).length ≤ i) → r = -1) → Q (some (.int (iI r))) (ch n kd pl s a c M) 0 0) : pm_E none (d + 1) pm_mm46 0 [(0, .ref (pl 0)), (1, .int (iI t)), (2, .int (iI i))] [] (ch n kd pl s a c M) 0 0 Q := by
  obtain ⟨hS1, hS2, hS3, hS4⟩ := id hS
  obtain ⟨_, _⟩ := id ht
  obtain ⟨_, _⟩ := id hi
  refine pm_e_sim pm_a46_0 rfl ?_
  show pm_E _ _ _ 1 [(0, .ref (pl 0)), (1, .int (iI t)), (2, .int (iI i))] [.ref (pl 0)] _ _ _ _
  refine pm_e_sim pm_a46_1 rfl ?_
  show pm_E _ _ _ 2 [(0, .ref (pl 0)), (1, .int (iI t)), (2, .int (iI i))] [.int (iI t), .ref (pl 0)] _ _ _ _
  refine pm_i_callv (k := (pl 0)) (T2 := pm_mm45) pm_a46_2 rfl rfl rfl (cg_0 hW) ⟨Nat.le_of_ble_eq_true rfl, Nat.le_of_ble_eq_true rfl, rfl, by decide +kernel⟩ ?_
  show pm_E none _ _ 0 [(0, .ref (pl 0)), (1, .int (iI t))] [] _ _ _ _
  refine C_termAt hW hS ⟨by omega, by omega⟩ (fun t0j t1j j ej hj lj => ?_) (fun t9j => ?_)
  · skip
    have rbj := rm_b j
    have rmj : rm j = 500 := if_neg (by omega)
    obtain ⟨hlj, _⟩ := hT t (by omega) (by omega)
    obtain ⟨ovj, zj, gj⟩ : (c j).2.1 = 0 ∧ (c j).1 = (T t).length ∧ rg (c j).2.2 (T t).length 0 = T t := by rcases lj.2 with ⟨_, h1, h2, h3⟩ | ⟨h, _⟩; exact ⟨h1, h2, h3⟩; omega
    show pm_E _ _ _ 5 [(0, .ref (pl 0)), (1, .int (iI t)), (2, .int (iI i))] [.ref (pl (60 + 2 * j))] _ _ _ _
    refine pm_e_sim pm_a46_5 rfl ?_
    show pm_E _ _ _ 6 [(0, .ref (pl 0)), (1, .int (iI t)), (2, .int (iI i)), (3, .ref (pl (60 + 2 * j)))] [] _ _ _ _
    refine pm_e_sim pm_a46_6 rfl ?_
    show pm_E _ _ _ 7 [(0, .ref (pl 0)), (1, .int (iI t)), (2, .int (iI i)), (3, .ref (pl (60 + 2 * j)))] [.ref (pl (60 + 2 * j))] _ _ _ _
    refine pm_e_jmp pm_a46_7 rfl rfl ?_
    show pm_E _ _ _ 14 [(0, .ref (pl 0)), (1, .int (iI t)), (2, .int (iI i)), (3, .ref (pl (60 + 2 * j)))] [] _ _ _ _
    refine pm_e_sim pm_a46_14 rfl ?_
    show pm_E _ _ _ 15 [(0, .ref (pl 0)), (1, .int (iI t)), (2, .int (iI i)), (3, .ref (pl (60 + 2 * j)))] [.ref (pl (60 + 2 * j))] _ _ _ _
    refine pm_e_sim pm_a46_15 rfl ?_
    show pm_E _ _ _ 16 [(0, .ref (pl 0)), (1, .int (iI t)), (2, .int (iI i)), (3, .ref (pl (60 + 2 * j)))] [.int (iI i), .ref (pl (60 + 2 * j))] _ _ _ _
    refine pm_i_callv (k := (pl (60 + 2 * j))) (T2 := pm_mm47) pm_a46_16 rfl rfl rfl (cg_o hj) ⟨Nat.le_of_ble_eq_true rfl, Nat.le_of_ble_eq_true rfl, rfl, by decide +kernel⟩ ?_
    show pm_E none _ _ 0 [(0, .ref (pl (60 + 2 * j))), (1, .int (iI i))] [] _ _ _ _
    refine C_at hW hj rfl lj.1.1 lj.1.2.1 ⟨by omega, by omega⟩ ?_
    show pm_E _ _ _ 19 [(0, .ref (pl 0)), (1, .int (iI t)), (2, .int (iI i)), (3, .ref (pl (60 + 2 * j)))] [.int (iI (atI (c j) i))] _ _ _ _
    refine pm_e_ret pm_a46_19 rfl rfl rfl rfl rfl rfl rfl rfl ?_
    exact k (by omega) (by omega) _ (fun y0 y1 => ⟨(c j).2.2, gj, atI_y y0 (by omega)⟩) (fun y => by unfold atI; rw [if_neg (by omega)])
  · skip
    show pm_E _ _ _ 5 [(0, .ref (pl 0)), (1, .int (iI t)), (2, .int (iI i))] [.null] _ _ _ _
    refine pm_e_sim pm_a46_5 rfl ?_
    show pm_E _ _ _ 6 [(0, .ref (pl 0)), (1, .int (iI t)), (2, .int (iI i)), (3, .null)] [] _ _ _ _
    refine pm_e_sim pm_a46_6 rfl ?_
    show pm_E _ _ _ 7 [(0, .ref (pl 0)), (1, .int (iI t)), (2, .int (iI i)), (3, .null)] [.null] _ _ _ _
    refine pm_e_jmp pm_a46_7 rfl rfl ?_
    show pm_E _ _ _ 10 [(0, .ref (pl 0)), (1, .int (iI t)), (2, .int (iI i)), (3, .null)] [] _ _ _ _
    refine pm_e_sim pm_a46_10 rfl ?_
    refine pm_e_top (y := iI (-1)) (by decide +kernel) ?_
    show pm_E _ _ _ 11 [(0, .ref (pl 0)), (1, .int (iI t)), (2, .int (iI i)), (3, .null)] [.int (iI (-1))] _ _ _ _
    refine pm_e_goto pm_a46_11 rfl ?_
    show pm_E _ _ _ 19 [(0, .ref (pl 0)), (1, .int (iI t)), (2, .int (iI i)), (3, .null)] [.int (iI (-1))] _ _ _ _
    refine pm_e_ret pm_a46_19 rfl rfl rfl rfl rfl rfl rfl rfl ?_
    exact kb (by omega)
set_option maxHeartbeats 4000000 in
set_option maxRecDepth 100000 in
theorem C_number {d n : Nat} {kd pl : Nat → Nat} {s : Nat → Int} {a : Nat → Int → Int} {c : Nat → cdt} {M : List va_E} {Q : Option Value → List va_E → Nat → Nat → Prop} {N : Int} {T : Int → List Int} {t : Int} (hW : wf n kd pl) (hS : cS n kd pl s c N T) (hT : ∀ t, 0 ≤ t → t < N → (T t).length ≤ 500 ∧ ∃ f, tL f 0 (T t)) (ht : in32 t) (kb : (t < 0 ∨ N ≤ t) → Q (some (.int (iI (-1)))) (ch n kd pl s a c M) 0 0) (k : 0 ≤ t → t < N → ∀ r, (∃ g : Int → Int, rg g (T t).length 0 = T t ∧ nbR g (T t).length r) → Q (some (.int (iI r))) (ch n kd pl s a c M) 0 0) : pm_E none (d + 3) pm_mm104 0 [(0, .ref (pl 0)), (1, .int (iI t))] [] (ch n kd pl s a c M) 0 0 Q := by
  obtain ⟨hS1, hS2, hS3, hS4⟩ := id hS
  obtain ⟨_, _⟩ := id ht
  refine pm_e_sim pm_a104_0 rfl ?_
  show pm_E _ _ _ 1 [(0, .ref (pl 0)), (1, .int (iI t))] [.ref (pl 0)] _ _ _ _
  refine pm_e_sim pm_a104_1 rfl ?_
  show pm_E _ _ _ 2 [(0, .ref (pl 0)), (1, .int (iI t))] [.int (iI t), .ref (pl 0)] _ _ _ _
  refine pm_i_callv (k := (pl 0)) (T2 := pm_mm45) pm_a104_2 rfl rfl rfl (cg_0 hW) ⟨Nat.le_of_ble_eq_true rfl, Nat.le_of_ble_eq_true rfl, rfl, by decide +kernel⟩ ?_
  show pm_E none _ _ 0 [(0, .ref (pl 0)), (1, .int (iI t))] [] _ _ _ _
  refine C_termAt hW hS ⟨by omega, by omega⟩ (fun t0j t1j j ej hj lj => ?_) (fun t9j => ?_)
  · skip
    have rbj := rm_b j
    have rmj : rm j = 500 := if_neg (by omega)
    obtain ⟨hlj, _⟩ := hT t (by omega) (by omega)
    obtain ⟨ovj, zj, gj⟩ : (c j).2.1 = 0 ∧ (c j).1 = (T t).length ∧ rg (c j).2.2 (T t).length 0 = T t := by rcases lj.2 with ⟨_, h1, h2, h3⟩ | ⟨h, _⟩; exact ⟨h1, h2, h3⟩; omega
    show pm_E _ _ _ 5 [(0, .ref (pl 0)), (1, .int (iI t))] [.ref (pl (60 + 2 * j))] _ _ _ _
    refine pm_e_sim pm_a104_5 rfl ?_
    show pm_E _ _ _ 6 [(0, .ref (pl 0)), (1, .int (iI t)), (2, .ref (pl (60 + 2 * j)))] [] _ _ _ _
    refine pm_e_sim pm_a104_6 rfl ?_
    show pm_E _ _ _ 7 [(0, .ref (pl 0)), (1, .int (iI t)), (2, .ref (pl (60 + 2 * j)))] [.ref (pl (60 + 2 * j))] _ _ _ _
    refine pm_e_jmp pm_a104_7 rfl rfl ?_
    show pm_E _ _ _ 14 [(0, .ref (pl 0)), (1, .int (iI t)), (2, .ref (pl (60 + 2 * j)))] [] _ _ _ _
    refine pm_e_sim pm_a104_14 rfl ?_
    show pm_E _ _ _ 15 [(0, .ref (pl 0)), (1, .int (iI t)), (2, .ref (pl (60 + 2 * j)))] [.ref (pl (60 + 2 * j))] _ _ _ _
    refine pm_e_call (T2 := pm_mm105) pm_a104_15 rfl rfl rfl rfl rfl rfl rfl rfl rfl ?_
    show pm_E none _ _ 0 [(0, .ref (pl (60 + 2 * j)))] [] _ _ _ _
    obtain ⟨_, ft, htl⟩ := hT t (by omega) (by omega)
    have htm := tL_tm0 htl gj
    rw [← zj] at htm
    refine C_numberOf hW hj lj.1 htm (fun r hr hnr => ?_)
    rw [zj] at hnr
    show pm_E _ _ _ 18 [(0, .ref (pl 0)), (1, .int (iI t)), (2, .ref (pl (60 + 2 * j)))] [.int (iI r)] _ _ _ _
    refine pm_e_ret pm_a104_18 rfl rfl rfl rfl rfl rfl rfl rfl ?_
    exact k (by omega) (by omega) _ ⟨(c j).2.2, gj, hnr⟩
  · skip
    show pm_E _ _ _ 5 [(0, .ref (pl 0)), (1, .int (iI t))] [.null] _ _ _ _
    refine pm_e_sim pm_a104_5 rfl ?_
    show pm_E _ _ _ 6 [(0, .ref (pl 0)), (1, .int (iI t)), (2, .null)] [] _ _ _ _
    refine pm_e_sim pm_a104_6 rfl ?_
    show pm_E _ _ _ 7 [(0, .ref (pl 0)), (1, .int (iI t)), (2, .null)] [.null] _ _ _ _
    refine pm_e_jmp pm_a104_7 rfl rfl ?_
    show pm_E _ _ _ 10 [(0, .ref (pl 0)), (1, .int (iI t)), (2, .null)] [] _ _ _ _
    refine pm_e_sim pm_a104_10 rfl ?_
    refine pm_e_top (y := iI (-1)) (by decide +kernel) ?_
    show pm_E _ _ _ 11 [(0, .ref (pl 0)), (1, .int (iI t)), (2, .null)] [.int (iI (-1))] _ _ _ _
    refine pm_e_goto pm_a104_11 rfl ?_
    show pm_E _ _ _ 18 [(0, .ref (pl 0)), (1, .int (iI t)), (2, .null)] [.int (iI (-1))] _ _ _ _
    refine pm_e_ret pm_a104_18 rfl rfl rfl rfl rfl rfl rfl rfl ?_
    exact kb (by omega)
set_option maxHeartbeats 4000000 in
set_option maxRecDepth 100000 in
theorem C_redexes {d n : Nat} {kd pl : Nat → Nat} {s : Nat → Int} {a : Nat → Int → Int} {c : Nat → cdt} {M : List va_E} {Q : Option Value → List va_E → Nat → Nat → Prop} {N : Int} {T : Int → List Int} {t : Int} (hW : wf n kd pl) (hS : cS n kd pl s c N T) (hT : ∀ t, 0 ≤ t → t < N → (T t).length ≤ 500 ∧ ∃ f, tL f 0 (T t)) (ht : in32 t) (kb : (t < 0 ∨ N ≤ t) → Q (some (.int (iI (-1)))) (ch n kd pl s a c M) 0 0) (k : 0 ≤ t → t < N → ∀ r, (∃ g : Int → Int, rg g (T t).length 0 = T t ∧ r = cnt g (T t).length (T t).length 0 0) → Q (some (.int (iI r))) (ch n kd pl s a c M) 0 0) : pm_E none (d + 3) pm_mm91 0 [(0, .ref (pl 0)), (1, .int (iI t))] [] (ch n kd pl s a c M) 0 0 Q := by
  obtain ⟨hS1, hS2, hS3, hS4⟩ := id hS
  obtain ⟨_, _⟩ := id ht
  refine pm_e_sim pm_a91_0 rfl ?_
  show pm_E _ _ _ 1 [(0, .ref (pl 0)), (1, .int (iI t))] [.ref (pl 0)] _ _ _ _
  refine pm_e_sim pm_a91_1 rfl ?_
  show pm_E _ _ _ 2 [(0, .ref (pl 0)), (1, .int (iI t))] [.int (iI t), .ref (pl 0)] _ _ _ _
  refine pm_i_callv (k := (pl 0)) (T2 := pm_mm45) pm_a91_2 rfl rfl rfl (cg_0 hW) ⟨Nat.le_of_ble_eq_true rfl, Nat.le_of_ble_eq_true rfl, rfl, by decide +kernel⟩ ?_
  show pm_E none _ _ 0 [(0, .ref (pl 0)), (1, .int (iI t))] [] _ _ _ _
  refine C_termAt hW hS ⟨by omega, by omega⟩ (fun t0j t1j j ej hj lj => ?_) (fun t9j => ?_)
  · skip
    have rbj := rm_b j
    have rmj : rm j = 500 := if_neg (by omega)
    obtain ⟨hlj, _⟩ := hT t (by omega) (by omega)
    obtain ⟨ovj, zj, gj⟩ : (c j).2.1 = 0 ∧ (c j).1 = (T t).length ∧ rg (c j).2.2 (T t).length 0 = T t := by rcases lj.2 with ⟨_, h1, h2, h3⟩ | ⟨h, _⟩; exact ⟨h1, h2, h3⟩; omega
    show pm_E _ _ _ 5 [(0, .ref (pl 0)), (1, .int (iI t))] [.ref (pl (60 + 2 * j))] _ _ _ _
    refine pm_e_sim pm_a91_5 rfl ?_
    show pm_E _ _ _ 6 [(0, .ref (pl 0)), (1, .int (iI t)), (2, .ref (pl (60 + 2 * j)))] [] _ _ _ _
    refine pm_e_sim pm_a91_6 rfl ?_
    show pm_E _ _ _ 7 [(0, .ref (pl 0)), (1, .int (iI t)), (2, .ref (pl (60 + 2 * j)))] [.ref (pl (60 + 2 * j))] _ _ _ _
    refine pm_e_jmp pm_a91_7 rfl rfl ?_
    show pm_E _ _ _ 14 [(0, .ref (pl 0)), (1, .int (iI t)), (2, .ref (pl (60 + 2 * j)))] [] _ _ _ _
    refine pm_e_sim pm_a91_14 rfl ?_
    show pm_E _ _ _ 15 [(0, .ref (pl 0)), (1, .int (iI t)), (2, .ref (pl (60 + 2 * j)))] [.ref (pl 0)] _ _ _ _
    refine pm_i_get pm_a91_15 rfl (cg_0 hW) rfl ?_
    show pm_E _ _ _ 18 [(0, .ref (pl 0)), (1, .int (iI t)), (2, .ref (pl (60 + 2 * j)))] [.ref (pl 15)] _ _ _ _
    refine pm_e_sim pm_a91_18 rfl ?_
    show pm_E _ _ _ 19 [(0, .ref (pl 0)), (1, .int (iI t)), (2, .ref (pl (60 + 2 * j)))] [.ref (pl (60 + 2 * j)), .ref (pl 15)] _ _ _ _
    refine pm_i_callv (k := (pl 15)) (T2 := pm_mm92) pm_a91_19 rfl rfl rfl (cg_15 hW) ⟨Nat.le_of_ble_eq_true rfl, Nat.le_of_ble_eq_true rfl, rfl, by decide +kernel⟩ ?_
    show pm_E none _ _ 0 [(0, .ref (pl 15)), (1, .ref (pl (60 + 2 * j)))] [] _ _ _ _
    obtain ⟨_, ft, htl⟩ := hT t (by omega) (by omega)
    have htm := tL_tm0 htl gj
    rw [← zj] at htm
    refine C_howMany hW hj rfl lj.1 htm (fun r _ _ hrr => ?_)
    rw [show (c j).1.toNat = (T t).length by omega, zj] at hrr
    show pm_E _ _ _ 22 [(0, .ref (pl 0)), (1, .int (iI t)), (2, .ref (pl (60 + 2 * j)))] [.int (iI r)] _ _ _ _
    refine pm_e_ret pm_a91_22 rfl rfl rfl rfl rfl rfl rfl rfl ?_
    exact k (by omega) (by omega) _ ⟨(c j).2.2, gj, hrr⟩
  · skip
    show pm_E _ _ _ 5 [(0, .ref (pl 0)), (1, .int (iI t))] [.null] _ _ _ _
    refine pm_e_sim pm_a91_5 rfl ?_
    show pm_E _ _ _ 6 [(0, .ref (pl 0)), (1, .int (iI t)), (2, .null)] [] _ _ _ _
    refine pm_e_sim pm_a91_6 rfl ?_
    show pm_E _ _ _ 7 [(0, .ref (pl 0)), (1, .int (iI t)), (2, .null)] [.null] _ _ _ _
    refine pm_e_jmp pm_a91_7 rfl rfl ?_
    show pm_E _ _ _ 10 [(0, .ref (pl 0)), (1, .int (iI t)), (2, .null)] [] _ _ _ _
    refine pm_e_sim pm_a91_10 rfl ?_
    refine pm_e_top (y := iI (-1)) (by decide +kernel) ?_
    show pm_E _ _ _ 11 [(0, .ref (pl 0)), (1, .int (iI t)), (2, .null)] [.int (iI (-1))] _ _ _ _
    refine pm_e_goto pm_a91_11 rfl ?_
    show pm_E _ _ _ 22 [(0, .ref (pl 0)), (1, .int (iI t)), (2, .null)] [.int (iI (-1))] _ _ _ _
    refine pm_e_ret pm_a91_22 rfl rfl rfl rfl rfl rfl rfl rfl ?_
    exact kb (by omega)
set_option maxHeartbeats 4000000 in
set_option maxRecDepth 100000 in
theorem C_same {d n : Nat} {kd pl : Nat → Nat} {s : Nat → Int} {a : Nat → Int → Int} {c : Nat → cdt} {M : List va_E} {Q : Option Value → List va_E → Nat → Nat → Prop} {N : Int} {T : Int → List Int} {t u : Int} (hW : wf n kd pl) (hS : cS n kd pl s c N T) (hT : ∀ t, 0 ≤ t → t < N → (T t).length ≤ 500 ∧ ∃ f, tL f 0 (T t)) (ht : in32 t) (hu : in32 u) (kb : (t < 0 ∨ N ≤ t ∨ u < 0 ∨ N ≤ u) → Q (some (.int (iI (-1)))) (ch n kd pl s a c M) 0 0) (k : 0 ≤ t → t < N → 0 ≤ u → u < N → ∀ r, (T t = T u → r = 1) → (T t ≠ T u → r = 0) → Q (some (.int (iI r))) (ch n kd pl s a c M) 0 0) : pm_E none (d + 2) pm_mm61 0 [(0, .ref (pl 0)), (1, .int (iI t)), (2, .int (iI u))] [] (ch n kd pl s a c M) 0 0 Q := by
  obtain ⟨hS1, hS2, hS3, hS4⟩ := id hS
  obtain ⟨_, _⟩ := id ht
  obtain ⟨_, _⟩ := id hu
  refine pm_e_sim pm_a61_0 rfl ?_
  show pm_E _ _ _ 1 [(0, .ref (pl 0)), (1, .int (iI t)), (2, .int (iI u))] [.ref (pl 0)] _ _ _ _
  refine pm_e_sim pm_a61_1 rfl ?_
  show pm_E _ _ _ 2 [(0, .ref (pl 0)), (1, .int (iI t)), (2, .int (iI u))] [.int (iI t), .ref (pl 0)] _ _ _ _
  refine pm_i_callv (k := (pl 0)) (T2 := pm_mm45) pm_a61_2 rfl rfl rfl (cg_0 hW) ⟨Nat.le_of_ble_eq_true rfl, Nat.le_of_ble_eq_true rfl, rfl, by decide +kernel⟩ ?_
  show pm_E none _ _ 0 [(0, .ref (pl 0)), (1, .int (iI t))] [] _ _ _ _
  refine C_termAt hW hS ⟨by omega, by omega⟩ (fun t0j t1j j ej hj lj => ?_) (fun t9j => ?_)
  · skip
    have rbj := rm_b j
    have rmj : rm j = 500 := if_neg (by omega)
    obtain ⟨hlj, _⟩ := hT t (by omega) (by omega)
    obtain ⟨ovj, zj, gj⟩ : (c j).2.1 = 0 ∧ (c j).1 = (T t).length ∧ rg (c j).2.2 (T t).length 0 = T t := by rcases lj.2 with ⟨_, h1, h2, h3⟩ | ⟨h, _⟩; exact ⟨h1, h2, h3⟩; omega
    show pm_E _ _ _ 5 [(0, .ref (pl 0)), (1, .int (iI t)), (2, .int (iI u))] [.ref (pl (60 + 2 * j))] _ _ _ _
    refine pm_e_sim pm_a61_5 rfl ?_
    show pm_E _ _ _ 6 [(0, .ref (pl 0)), (1, .int (iI t)), (2, .int (iI u)), (3, .ref (pl (60 + 2 * j)))] [] _ _ _ _
    refine pm_e_sim pm_a61_6 rfl ?_
    show pm_E _ _ _ 7 [(0, .ref (pl 0)), (1, .int (iI t)), (2, .int (iI u)), (3, .ref (pl (60 + 2 * j)))] [.ref (pl 0)] _ _ _ _
    refine pm_e_sim pm_a61_7 rfl ?_
    show pm_E _ _ _ 8 [(0, .ref (pl 0)), (1, .int (iI t)), (2, .int (iI u)), (3, .ref (pl (60 + 2 * j)))] [.int (iI u), .ref (pl 0)] _ _ _ _
    refine pm_i_callv (k := (pl 0)) (T2 := pm_mm45) pm_a61_8 rfl rfl rfl (cg_0 hW) ⟨Nat.le_of_ble_eq_true rfl, Nat.le_of_ble_eq_true rfl, rfl, by decide +kernel⟩ ?_
    show pm_E none _ _ 0 [(0, .ref (pl 0)), (1, .int (iI u))] [] _ _ _ _
    refine C_termAt hW hS ⟨by omega, by omega⟩ (fun t0m t1m m em hm lm => ?_) (fun t9m => ?_)
    · skip
      have rbm := rm_b m
      have rmm : rm m = 500 := if_neg (by omega)
      obtain ⟨hlm, _⟩ := hT u (by omega) (by omega)
      obtain ⟨ovm, zm, gm⟩ : (c m).2.1 = 0 ∧ (c m).1 = (T u).length ∧ rg (c m).2.2 (T u).length 0 = T u := by rcases lm.2 with ⟨_, h1, h2, h3⟩ | ⟨h, _⟩; exact ⟨h1, h2, h3⟩; omega
      show pm_E _ _ _ 11 [(0, .ref (pl 0)), (1, .int (iI t)), (2, .int (iI u)), (3, .ref (pl (60 + 2 * j)))] [.ref (pl (60 + 2 * m))] _ _ _ _
      refine pm_e_sim pm_a61_11 rfl ?_
      show pm_E _ _ _ 13 [(0, .ref (pl 0)), (1, .int (iI t)), (2, .int (iI u)), (3, .ref (pl (60 + 2 * j))), (4, .ref (pl (60 + 2 * m)))] [] _ _ _ _
      refine pm_e_sim pm_a61_13 rfl ?_
      show pm_E _ _ _ 14 [(0, .ref (pl 0)), (1, .int (iI t)), (2, .int (iI u)), (3, .ref (pl (60 + 2 * j))), (4, .ref (pl (60 + 2 * m)))] [.ref (pl (60 + 2 * j))] _ _ _ _
      refine pm_e_jmp pm_a61_14 rfl rfl ?_
      show pm_E _ _ _ 17 [(0, .ref (pl 0)), (1, .int (iI t)), (2, .int (iI u)), (3, .ref (pl (60 + 2 * j))), (4, .ref (pl (60 + 2 * m)))] [] _ _ _ _
      refine pm_e_sim pm_a61_17 rfl ?_
      show pm_E _ _ _ 19 [(0, .ref (pl 0)), (1, .int (iI t)), (2, .int (iI u)), (3, .ref (pl (60 + 2 * j))), (4, .ref (pl (60 + 2 * m)))] [.ref (pl (60 + 2 * m))] _ _ _ _
      refine pm_e_jmp pm_a61_19 rfl rfl ?_
      show pm_E _ _ _ 24 [(0, .ref (pl 0)), (1, .int (iI t)), (2, .int (iI u)), (3, .ref (pl (60 + 2 * j))), (4, .ref (pl (60 + 2 * m)))] [] _ _ _ _
      refine pm_e_sim pm_a61_24 rfl ?_
      show pm_E _ _ _ 25 [(0, .ref (pl 0)), (1, .int (iI t)), (2, .int (iI u)), (3, .ref (pl (60 + 2 * j))), (4, .ref (pl (60 + 2 * m)))] [.ref (pl (60 + 2 * j))] _ _ _ _
      refine pm_e_sim pm_a61_25 rfl ?_
      show pm_E _ _ _ 27 [(0, .ref (pl 0)), (1, .int (iI t)), (2, .int (iI u)), (3, .ref (pl (60 + 2 * j))), (4, .ref (pl (60 + 2 * m)))] [.ref (pl (60 + 2 * m)), .ref (pl (60 + 2 * j))] _ _ _ _
      refine pm_i_callv (k := (pl (60 + 2 * j))) (T2 := pm_mm62) pm_a61_27 rfl rfl rfl (cg_o hj) ⟨Nat.le_of_ble_eq_true rfl, Nat.le_of_ble_eq_true rfl, rfl, by decide +kernel⟩ ?_
      show pm_E none _ _ 0 [(0, .ref (pl (60 + 2 * j))), (1, .ref (pl (60 + 2 * m)))] [] _ _ _ _
      refine C_isLike hW hj hm lj.1 lm.1 (fun y1 y2 => ?_) (fun y3 => ?_)
      · skip
        show pm_E _ _ _ 30 [(0, .ref (pl 0)), (1, .int (iI t)), (2, .int (iI u)), (3, .ref (pl (60 + 2 * j))), (4, .ref (pl (60 + 2 * m)))] [.int (iI 1)] _ _ _ _
        refine pm_e_iff pm_a61_30 rfl (by decide +kernel) ?_
        show pm_E _ _ _ 33 [(0, .ref (pl 0)), (1, .int (iI t)), (2, .int (iI u)), (3, .ref (pl (60 + 2 * j))), (4, .ref (pl (60 + 2 * m)))] [] _ _ _ _
        refine pm_e_sim pm_a61_33 rfl ?_
        refine pm_e_top (y := iI 1) (by decide +kernel) ?_
        show pm_E _ _ _ 34 [(0, .ref (pl 0)), (1, .int (iI t)), (2, .int (iI u)), (3, .ref (pl (60 + 2 * j))), (4, .ref (pl (60 + 2 * m)))] [.int (iI 1)] _ _ _ _
        refine pm_e_goto pm_a61_34 rfl ?_
        show pm_E _ _ _ 38 [(0, .ref (pl 0)), (1, .int (iI t)), (2, .int (iI u)), (3, .ref (pl (60 + 2 * j))), (4, .ref (pl (60 + 2 * m)))] [.int (iI 1)] _ _ _ _
        refine pm_e_ret pm_a61_38 rfl rfl rfl rfl rfl rfl rfl rfl ?_
        exact k (by omega) (by omega) (by omega) (by omega) _ (fun _ => rfl) (fun z => absurd (like_t zj gj zm gm y1 y2) z)
      · skip
        show pm_E _ _ _ 30 [(0, .ref (pl 0)), (1, .int (iI t)), (2, .int (iI u)), (3, .ref (pl (60 + 2 * j))), (4, .ref (pl (60 + 2 * m)))] [.int (iI 0)] _ _ _ _
        refine pm_e_ift pm_a61_30 rfl (by decide +kernel) ?_
        show pm_E _ _ _ 37 [(0, .ref (pl 0)), (1, .int (iI t)), (2, .int (iI u)), (3, .ref (pl (60 + 2 * j))), (4, .ref (pl (60 + 2 * m)))] [] _ _ _ _
        refine pm_e_sim pm_a61_37 rfl ?_
        refine pm_e_top (y := iI 0) (by decide +kernel) ?_
        show pm_E _ _ _ 38 [(0, .ref (pl 0)), (1, .int (iI t)), (2, .int (iI u)), (3, .ref (pl (60 + 2 * j))), (4, .ref (pl (60 + 2 * m)))] [.int (iI 0)] _ _ _ _
        refine pm_e_ret pm_a61_38 rfl rfl rfl rfl rfl rfl rfl rfl ?_
        exact k (by omega) (by omega) (by omega) (by omega) _ (fun z => absurd z (like_f zj gj zm gm y3)) (fun _ => rfl)
    · skip
      show pm_E _ _ _ 11 [(0, .ref (pl 0)), (1, .int (iI t)), (2, .int (iI u)), (3, .ref (pl (60 + 2 * j)))] [.null] _ _ _ _
      refine pm_e_sim pm_a61_11 rfl ?_
      show pm_E _ _ _ 13 [(0, .ref (pl 0)), (1, .int (iI t)), (2, .int (iI u)), (3, .ref (pl (60 + 2 * j))), (4, .null)] [] _ _ _ _
      refine pm_e_sim pm_a61_13 rfl ?_
      show pm_E _ _ _ 14 [(0, .ref (pl 0)), (1, .int (iI t)), (2, .int (iI u)), (3, .ref (pl (60 + 2 * j))), (4, .null)] [.ref (pl (60 + 2 * j))] _ _ _ _
      refine pm_e_jmp pm_a61_14 rfl rfl ?_
      show pm_E _ _ _ 17 [(0, .ref (pl 0)), (1, .int (iI t)), (2, .int (iI u)), (3, .ref (pl (60 + 2 * j))), (4, .null)] [] _ _ _ _
      refine pm_e_sim pm_a61_17 rfl ?_
      show pm_E _ _ _ 19 [(0, .ref (pl 0)), (1, .int (iI t)), (2, .int (iI u)), (3, .ref (pl (60 + 2 * j))), (4, .null)] [.null] _ _ _ _
      refine pm_e_jmp pm_a61_19 rfl rfl ?_
      show pm_E _ _ _ 22 [(0, .ref (pl 0)), (1, .int (iI t)), (2, .int (iI u)), (3, .ref (pl (60 + 2 * j))), (4, .null)] [] _ _ _ _
      refine pm_e_sim pm_a61_22 rfl ?_
      refine pm_e_top (y := iI (-1)) (by decide +kernel) ?_
      show pm_E _ _ _ 23 [(0, .ref (pl 0)), (1, .int (iI t)), (2, .int (iI u)), (3, .ref (pl (60 + 2 * j))), (4, .null)] [.int (iI (-1))] _ _ _ _
      refine pm_e_ret pm_a61_23 rfl rfl rfl rfl rfl rfl rfl rfl ?_
      exact kb (by omega)
  · skip
    show pm_E _ _ _ 5 [(0, .ref (pl 0)), (1, .int (iI t)), (2, .int (iI u))] [.null] _ _ _ _
    refine pm_e_sim pm_a61_5 rfl ?_
    show pm_E _ _ _ 6 [(0, .ref (pl 0)), (1, .int (iI t)), (2, .int (iI u)), (3, .null)] [] _ _ _ _
    refine pm_e_sim pm_a61_6 rfl ?_
    show pm_E _ _ _ 7 [(0, .ref (pl 0)), (1, .int (iI t)), (2, .int (iI u)), (3, .null)] [.ref (pl 0)] _ _ _ _
    refine pm_e_sim pm_a61_7 rfl ?_
    show pm_E _ _ _ 8 [(0, .ref (pl 0)), (1, .int (iI t)), (2, .int (iI u)), (3, .null)] [.int (iI u), .ref (pl 0)] _ _ _ _
    refine pm_i_callv (k := (pl 0)) (T2 := pm_mm45) pm_a61_8 rfl rfl rfl (cg_0 hW) ⟨Nat.le_of_ble_eq_true rfl, Nat.le_of_ble_eq_true rfl, rfl, by decide +kernel⟩ ?_
    show pm_E none _ _ 0 [(0, .ref (pl 0)), (1, .int (iI u))] [] _ _ _ _
    refine C_termAt hW hS ⟨by omega, by omega⟩ (fun t0j t1j j ej hj lj => ?_) (fun t9j => ?_)
    · skip
      have rbj := rm_b j
      have rmj : rm j = 500 := if_neg (by omega)
      obtain ⟨hlj, _⟩ := hT u (by omega) (by omega)
      obtain ⟨ovj, zj, gj⟩ : (c j).2.1 = 0 ∧ (c j).1 = (T u).length ∧ rg (c j).2.2 (T u).length 0 = T u := by rcases lj.2 with ⟨_, h1, h2, h3⟩ | ⟨h, _⟩; exact ⟨h1, h2, h3⟩; omega
      show pm_E _ _ _ 11 [(0, .ref (pl 0)), (1, .int (iI t)), (2, .int (iI u)), (3, .null)] [.ref (pl (60 + 2 * j))] _ _ _ _
      refine pm_e_sim pm_a61_11 rfl ?_
      show pm_E _ _ _ 13 [(0, .ref (pl 0)), (1, .int (iI t)), (2, .int (iI u)), (3, .null), (4, .ref (pl (60 + 2 * j)))] [] _ _ _ _
      refine pm_e_sim pm_a61_13 rfl ?_
      show pm_E _ _ _ 14 [(0, .ref (pl 0)), (1, .int (iI t)), (2, .int (iI u)), (3, .null), (4, .ref (pl (60 + 2 * j)))] [.null] _ _ _ _
      refine pm_e_jmp pm_a61_14 rfl rfl ?_
      show pm_E _ _ _ 22 [(0, .ref (pl 0)), (1, .int (iI t)), (2, .int (iI u)), (3, .null), (4, .ref (pl (60 + 2 * j)))] [] _ _ _ _
      refine pm_e_sim pm_a61_22 rfl ?_
      refine pm_e_top (y := iI (-1)) (by decide +kernel) ?_
      show pm_E _ _ _ 23 [(0, .ref (pl 0)), (1, .int (iI t)), (2, .int (iI u)), (3, .null), (4, .ref (pl (60 + 2 * j)))] [.int (iI (-1))] _ _ _ _
      refine pm_e_ret pm_a61_23 rfl rfl rfl rfl rfl rfl rfl rfl ?_
      exact kb (by omega)
    · skip
      show pm_E _ _ _ 11 [(0, .ref (pl 0)), (1, .int (iI t)), (2, .int (iI u)), (3, .null)] [.null] _ _ _ _
      refine pm_e_sim pm_a61_11 rfl ?_
      show pm_E _ _ _ 13 [(0, .ref (pl 0)), (1, .int (iI t)), (2, .int (iI u)), (3, .null), (4, .null)] [] _ _ _ _
      refine pm_e_sim pm_a61_13 rfl ?_
      show pm_E _ _ _ 14 [(0, .ref (pl 0)), (1, .int (iI t)), (2, .int (iI u)), (3, .null), (4, .null)] [.null] _ _ _ _
      refine pm_e_jmp pm_a61_14 rfl rfl ?_
      show pm_E _ _ _ 22 [(0, .ref (pl 0)), (1, .int (iI t)), (2, .int (iI u)), (3, .null), (4, .null)] [] _ _ _ _
      refine pm_e_sim pm_a61_22 rfl ?_
      refine pm_e_top (y := iI (-1)) (by decide +kernel) ?_
      show pm_E _ _ _ 23 [(0, .ref (pl 0)), (1, .int (iI t)), (2, .int (iI u)), (3, .null), (4, .null)] [.int (iI (-1))] _ _ _ _
      refine pm_e_ret pm_a61_23 rfl rfl rfl rfl rfl rfl rfl rfl ?_
      exact kb (by omega)
set_option maxHeartbeats 4000000 in
set_option maxRecDepth 100000 in
theorem C_redex {d n : Nat} {kd pl : Nat → Nat} {s : Nat → Int} {a : Nat → Int → Int} {c : Nat → cdt} {M : List va_E} {Q : Option Value → List va_E → Nat → Nat → Prop} {N : Int} {T : Int → List Int} {t w : Int} (hW : wf n kd pl) (hS : cS n kd pl s c N T) (hT : ∀ t, 0 ≤ t → t < N → (T t).length ≤ 500 ∧ ∃ f, tL f 0 (T t)) (ht : in32 t) (hw : in32 w) (hin : ∀ q, in32 (a 1 q)) (kb : (t < 0 ∨ N ≤ t ∨ w < 0 ∨ 3 < w) → Q (some (.int (iI (-1)))) (ch n kd pl s a c M) 0 0) (k : 0 ≤ t → t < N → 0 ≤ w → w ≤ 3 → ∀ a' r, shM a a' → (∃ g : Int → Int, rg g (T t).length 0 = T t ∧ nrx g (T t).length w r) → Q (some (.int (iI r))) (ch n kd pl s a' c M) 0 0) : pm_E none (d + 6) pm_mm90 0 [(0, .ref (pl 0)), (1, .int (iI t)), (2, .int (iI w))] [] (ch n kd pl s a c M) 0 0 Q := by
  obtain ⟨hS1, hS2, hS3, hS4⟩ := id hS
  obtain ⟨_, _⟩ := id ht
  obtain ⟨_, _⟩ := id hw
  refine pm_e_sim pm_a90_0 rfl ?_
  show pm_E _ _ _ 1 [(0, .ref (pl 0)), (1, .int (iI t)), (2, .int (iI w))] [.ref (pl 0)] _ _ _ _
  refine pm_e_sim pm_a90_1 rfl ?_
  show pm_E _ _ _ 2 [(0, .ref (pl 0)), (1, .int (iI t)), (2, .int (iI w))] [.int (iI t), .ref (pl 0)] _ _ _ _
  refine pm_i_callv (k := (pl 0)) (T2 := pm_mm45) pm_a90_2 rfl rfl rfl (cg_0 hW) ⟨Nat.le_of_ble_eq_true rfl, Nat.le_of_ble_eq_true rfl, rfl, by decide +kernel⟩ ?_
  show pm_E none _ _ 0 [(0, .ref (pl 0)), (1, .int (iI t))] [] _ _ _ _
  refine C_termAt hW hS ⟨by omega, by omega⟩ (fun t0j t1j j ej hj lj => ?_) (fun t9j => ?_)
  · skip
    have rbj := rm_b j
    have rmj : rm j = 500 := if_neg (by omega)
    obtain ⟨hlj, _⟩ := hT t (by omega) (by omega)
    obtain ⟨ovj, zj, gj⟩ : (c j).2.1 = 0 ∧ (c j).1 = (T t).length ∧ rg (c j).2.2 (T t).length 0 = T t := by rcases lj.2 with ⟨_, h1, h2, h3⟩ | ⟨h, _⟩; exact ⟨h1, h2, h3⟩; omega
    show pm_E _ _ _ 5 [(0, .ref (pl 0)), (1, .int (iI t)), (2, .int (iI w))] [.ref (pl (60 + 2 * j))] _ _ _ _
    refine pm_e_sim pm_a90_5 rfl ?_
    show pm_E _ _ _ 6 [(0, .ref (pl 0)), (1, .int (iI t)), (2, .int (iI w)), (3, .ref (pl (60 + 2 * j)))] [] _ _ _ _
    refine pm_e_sim pm_a90_6 rfl ?_
    show pm_E _ _ _ 7 [(0, .ref (pl 0)), (1, .int (iI t)), (2, .int (iI w)), (3, .ref (pl (60 + 2 * j)))] [.ref (pl (60 + 2 * j))] _ _ _ _
    refine pm_e_jmp pm_a90_7 rfl rfl ?_
    show pm_E _ _ _ 10 [(0, .ref (pl 0)), (1, .int (iI t)), (2, .int (iI w)), (3, .ref (pl (60 + 2 * j)))] [] _ _ _ _
    refine pm_e_sim pm_a90_10 rfl ?_
    show pm_E _ _ _ 11 [(0, .ref (pl 0)), (1, .int (iI t)), (2, .int (iI w)), (3, .ref (pl (60 + 2 * j)))] [.int (iI w)] _ _ _ _
    refine pm_e_call (T2 := pm_mm64) pm_a90_11 rfl rfl rfl rfl rfl rfl rfl rfl rfl ?_
    show pm_E none _ _ 0 [(0, .int (iI w))] [] _ _ _ _
    refine C_isWay ⟨by omega, by omega⟩ (fun _ _ => ?_) (fun _ => ?_)
    · skip
      show pm_E _ _ _ 14 [(0, .ref (pl 0)), (1, .int (iI t)), (2, .int (iI w)), (3, .ref (pl (60 + 2 * j)))] [.int (iI 1)] _ _ _ _
      refine pm_e_ift pm_a90_14 rfl (by decide +kernel) ?_
      show pm_E _ _ _ 21 [(0, .ref (pl 0)), (1, .int (iI t)), (2, .int (iI w)), (3, .ref (pl (60 + 2 * j)))] [] _ _ _ _
      refine pm_e_sim pm_a90_21 rfl ?_
      show pm_E _ _ _ 22 [(0, .ref (pl 0)), (1, .int (iI t)), (2, .int (iI w)), (3, .ref (pl (60 + 2 * j)))] [.ref (pl 0)] _ _ _ _
      refine pm_i_get pm_a90_22 rfl (cg_0 hW) rfl ?_
      show pm_E _ _ _ 25 [(0, .ref (pl 0)), (1, .int (iI t)), (2, .int (iI w)), (3, .ref (pl (60 + 2 * j)))] [.ref (pl 15)] _ _ _ _
      refine pm_e_sim pm_a90_25 rfl ?_
      show pm_E _ _ _ 26 [(0, .ref (pl 0)), (1, .int (iI t)), (2, .int (iI w)), (3, .ref (pl (60 + 2 * j)))] [.ref (pl (60 + 2 * j)), .ref (pl 15)] _ _ _ _
      refine pm_e_sim pm_a90_26 rfl ?_
      show pm_E _ _ _ 27 [(0, .ref (pl 0)), (1, .int (iI t)), (2, .int (iI w)), (3, .ref (pl (60 + 2 * j)))] [.int (iI w), .ref (pl (60 + 2 * j)), .ref (pl 15)] _ _ _ _
      refine pm_i_callv (k := (pl 15)) (T2 := pm_mm66) pm_a90_27 rfl rfl rfl (cg_15 hW) ⟨Nat.le_of_ble_eq_true rfl, Nat.le_of_ble_eq_true rfl, rfl, by decide +kernel⟩ ?_
      show pm_E none _ _ 0 [(0, .ref (pl 15)), (1, .ref (pl (60 + 2 * j))), (2, .int (iI w))] [] _ _ _ _
      obtain ⟨_, ft, htl⟩ := hT t (by omega) (by omega)
      have htm := tL_tm0 htl gj
      rw [← zj] at htm
      refine C_place hW hj rfl lj.1 hin htm ⟨by omega, by omega⟩ (fun a1 r hm hn => ?_)
      show pm_E _ _ _ 30 [(0, .ref (pl 0)), (1, .int (iI t)), (2, .int (iI w)), (3, .ref (pl (60 + 2 * j)))] [.int (iI r)] _ _ _ _
      refine pm_e_ret pm_a90_30 rfl rfl rfl rfl rfl rfl rfl rfl ?_
      rw [zj] at hn
      exact k (by omega) (by omega) (by omega) (by omega) _ _ hm ⟨(c j).2.2, gj, hn⟩
    · skip
      show pm_E _ _ _ 14 [(0, .ref (pl 0)), (1, .int (iI t)), (2, .int (iI w)), (3, .ref (pl (60 + 2 * j)))] [.int (iI 0)] _ _ _ _
      refine pm_e_iff pm_a90_14 rfl (by decide +kernel) ?_
      show pm_E _ _ _ 17 [(0, .ref (pl 0)), (1, .int (iI t)), (2, .int (iI w)), (3, .ref (pl (60 + 2 * j)))] [] _ _ _ _
      refine pm_e_sim pm_a90_17 rfl ?_
      refine pm_e_top (y := iI (-1)) (by decide +kernel) ?_
      show pm_E _ _ _ 18 [(0, .ref (pl 0)), (1, .int (iI t)), (2, .int (iI w)), (3, .ref (pl (60 + 2 * j)))] [.int (iI (-1))] _ _ _ _
      refine pm_e_goto pm_a90_18 rfl ?_
      show pm_E _ _ _ 30 [(0, .ref (pl 0)), (1, .int (iI t)), (2, .int (iI w)), (3, .ref (pl (60 + 2 * j)))] [.int (iI (-1))] _ _ _ _
      refine pm_e_ret pm_a90_30 rfl rfl rfl rfl rfl rfl rfl rfl ?_
      exact kb (by omega)
  · skip
    show pm_E _ _ _ 5 [(0, .ref (pl 0)), (1, .int (iI t)), (2, .int (iI w))] [.null] _ _ _ _
    refine pm_e_sim pm_a90_5 rfl ?_
    show pm_E _ _ _ 6 [(0, .ref (pl 0)), (1, .int (iI t)), (2, .int (iI w)), (3, .null)] [] _ _ _ _
    refine pm_e_sim pm_a90_6 rfl ?_
    show pm_E _ _ _ 7 [(0, .ref (pl 0)), (1, .int (iI t)), (2, .int (iI w)), (3, .null)] [.null] _ _ _ _
    refine pm_e_jmp pm_a90_7 rfl rfl ?_
    show pm_E _ _ _ 17 [(0, .ref (pl 0)), (1, .int (iI t)), (2, .int (iI w)), (3, .null)] [] _ _ _ _
    refine pm_e_sim pm_a90_17 rfl ?_
    refine pm_e_top (y := iI (-1)) (by decide +kernel) ?_
    show pm_E _ _ _ 18 [(0, .ref (pl 0)), (1, .int (iI t)), (2, .int (iI w)), (3, .null)] [.int (iI (-1))] _ _ _ _
    refine pm_e_goto pm_a90_18 rfl ?_
    show pm_E _ _ _ 30 [(0, .ref (pl 0)), (1, .int (iI t)), (2, .int (iI w)), (3, .null)] [.int (iI (-1))] _ _ _ _
    refine pm_e_ret pm_a90_30 rfl rfl rfl rfl rfl rfl rfl rfl ?_
    exact kb (by omega)
set_option maxHeartbeats 4000000 in
set_option maxRecDepth 100000 in
theorem C_step {d n : Nat} {kd pl : Nat → Nat} {s : Nat → Int} {a : Nat → Int → Int} {c : Nat → cdt} {M : List va_E} {Q : Option Value → List va_E → Nat → Nat → Prop} {N : Int} {T : Int → List Int} {t w : Int} (hW : wf n kd pl) (hS : cS n kd pl s c N T) (hT : ∀ t, 0 ≤ t → t < N → (T t).length ≤ 500 ∧ ∃ f, tL f 0 (T t)) (ht : in32 t) (hw : in32 w) (hin : ∀ q, in32 (a 1 q)) (ho1 : okx (rm 1) (c 1)) (kb : (t < 0 ∨ N ≤ t ∨ w < 0 ∨ 3 < w) → Q (some (.int (iI (-1)))) (ch n kd pl s a c M) 0 0) (k : 0 ≤ t → t < N → 0 ≤ w → w ≤ 3 → ∀ a' c' r l', shM a a' → (∀ i, i ≠ 1 → i ≠ 6 + t.toNat → c' i = c i) → okx (rm 1) (c' 1) → md (c' (6 + t.toNat)) (rm (6 + t.toNat)) l' → l'.length ≤ 500 → stp w (T t) r l' → Q (some (.int (iI r))) (ch n kd pl s a' c' M) 0 0) : pm_E none (d + 7) pm_mm63 0 [(0, .ref (pl 0)), (1, .int (iI t)), (2, .int (iI w))] [] (ch n kd pl s a c M) 0 0 Q := by
  obtain ⟨hS1, hS2, hS3, hS4⟩ := id hS
  obtain ⟨_, _⟩ := id ht
  obtain ⟨_, _⟩ := id hw
  refine pm_e_sim pm_a63_0 rfl ?_
  show pm_E _ _ _ 1 [(0, .ref (pl 0)), (1, .int (iI t)), (2, .int (iI w))] [.ref (pl 0)] _ _ _ _
  refine pm_e_sim pm_a63_1 rfl ?_
  show pm_E _ _ _ 2 [(0, .ref (pl 0)), (1, .int (iI t)), (2, .int (iI w))] [.int (iI t), .ref (pl 0)] _ _ _ _
  refine pm_i_callv (k := (pl 0)) (T2 := pm_mm45) pm_a63_2 rfl rfl rfl (cg_0 hW) ⟨Nat.le_of_ble_eq_true rfl, Nat.le_of_ble_eq_true rfl, rfl, by decide +kernel⟩ ?_
  show pm_E none _ _ 0 [(0, .ref (pl 0)), (1, .int (iI t))] [] _ _ _ _
  refine C_termAt hW hS ⟨by omega, by omega⟩ (fun t0j t1j j ej hj lj => ?_) (fun t9j => ?_)
  · skip
    have rbj := rm_b j
    have rmj : rm j = 500 := if_neg (by omega)
    obtain ⟨hlj, _⟩ := hT t (by omega) (by omega)
    obtain ⟨ovj, zj, gj⟩ : (c j).2.1 = 0 ∧ (c j).1 = (T t).length ∧ rg (c j).2.2 (T t).length 0 = T t := by rcases lj.2 with ⟨_, h1, h2, h3⟩ | ⟨h, _⟩; exact ⟨h1, h2, h3⟩; omega
    show pm_E _ _ _ 5 [(0, .ref (pl 0)), (1, .int (iI t)), (2, .int (iI w))] [.ref (pl (60 + 2 * j))] _ _ _ _
    refine pm_e_sim pm_a63_5 rfl ?_
    show pm_E _ _ _ 6 [(0, .ref (pl 0)), (1, .int (iI t)), (2, .int (iI w)), (3, .ref (pl (60 + 2 * j)))] [] _ _ _ _
    refine pm_e_sim pm_a63_6 rfl ?_
    show pm_E _ _ _ 7 [(0, .ref (pl 0)), (1, .int (iI t)), (2, .int (iI w)), (3, .ref (pl (60 + 2 * j)))] [.ref (pl (60 + 2 * j))] _ _ _ _
    refine pm_e_jmp pm_a63_7 rfl rfl ?_
    show pm_E _ _ _ 10 [(0, .ref (pl 0)), (1, .int (iI t)), (2, .int (iI w)), (3, .ref (pl (60 + 2 * j)))] [] _ _ _ _
    refine pm_e_sim pm_a63_10 rfl ?_
    show pm_E _ _ _ 11 [(0, .ref (pl 0)), (1, .int (iI t)), (2, .int (iI w)), (3, .ref (pl (60 + 2 * j)))] [.int (iI w)] _ _ _ _
    refine pm_e_call (T2 := pm_mm64) pm_a63_11 rfl rfl rfl rfl rfl rfl rfl rfl rfl ?_
    show pm_E none _ _ 0 [(0, .int (iI w))] [] _ _ _ _
    refine C_isWay ⟨by omega, by omega⟩ (fun _ _ => ?_) (fun _ => ?_)
    · skip
      show pm_E _ _ _ 14 [(0, .ref (pl 0)), (1, .int (iI t)), (2, .int (iI w)), (3, .ref (pl (60 + 2 * j)))] [.int (iI 1)] _ _ _ _
      refine pm_e_ift pm_a63_14 rfl (by decide +kernel) ?_
      show pm_E _ _ _ 21 [(0, .ref (pl 0)), (1, .int (iI t)), (2, .int (iI w)), (3, .ref (pl (60 + 2 * j)))] [] _ _ _ _
      refine pm_e_sim pm_a63_21 rfl ?_
      show pm_E _ _ _ 22 [(0, .ref (pl 0)), (1, .int (iI t)), (2, .int (iI w)), (3, .ref (pl (60 + 2 * j)))] [.ref (pl 0)] _ _ _ _
      refine pm_i_get pm_a63_22 rfl (cg_0 hW) rfl ?_
      show pm_E _ _ _ 25 [(0, .ref (pl 0)), (1, .int (iI t)), (2, .int (iI w)), (3, .ref (pl (60 + 2 * j)))] [.ref (pl 15)] _ _ _ _
      refine pm_e_sim pm_a63_25 rfl ?_
      show pm_E _ _ _ 26 [(0, .ref (pl 0)), (1, .int (iI t)), (2, .int (iI w)), (3, .ref (pl (60 + 2 * j)))] [.ref (pl (60 + 2 * j)), .ref (pl 15)] _ _ _ _
      refine pm_e_sim pm_a63_26 rfl ?_
      show pm_E _ _ _ 27 [(0, .ref (pl 0)), (1, .int (iI t)), (2, .int (iI w)), (3, .ref (pl (60 + 2 * j)))] [.int (iI w), .ref (pl (60 + 2 * j)), .ref (pl 15)] _ _ _ _
      refine pm_i_callv (k := (pl 15)) (T2 := pm_mm65) pm_a63_27 rfl rfl rfl (cg_15 hW) ⟨Nat.le_of_ble_eq_true rfl, Nat.le_of_ble_eq_true rfl, rfl, by decide +kernel⟩ ?_
      show pm_E none _ _ 0 [(0, .ref (pl 15)), (1, .ref (pl (60 + 2 * j))), (2, .int (iI w))] [] _ _ _ _
      obtain ⟨_, ft, htl⟩ := hT t (by omega) (by omega)
      refine C_turn hW hj (by omega) (by omega) lj hlj htl ho1 hin ⟨by omega, by omega⟩ (fun a1 c1 r l1 z1 z2 z3 z4 z5 z6 => ?_)
      show pm_E _ _ _ 30 [(0, .ref (pl 0)), (1, .int (iI t)), (2, .int (iI w)), (3, .ref (pl (60 + 2 * j)))] [.int (iI r)] _ _ _ _
      refine pm_e_ret pm_a63_30 rfl rfl rfl rfl rfl rfl rfl rfl ?_
      subst ej
      exact k (by omega) (by omega) (by omega) (by omega) _ _ _ _ z1 z2 z3 z4 z5 z6
    · skip
      show pm_E _ _ _ 14 [(0, .ref (pl 0)), (1, .int (iI t)), (2, .int (iI w)), (3, .ref (pl (60 + 2 * j)))] [.int (iI 0)] _ _ _ _
      refine pm_e_iff pm_a63_14 rfl (by decide +kernel) ?_
      show pm_E _ _ _ 17 [(0, .ref (pl 0)), (1, .int (iI t)), (2, .int (iI w)), (3, .ref (pl (60 + 2 * j)))] [] _ _ _ _
      refine pm_e_sim pm_a63_17 rfl ?_
      refine pm_e_top (y := iI (-1)) (by decide +kernel) ?_
      show pm_E _ _ _ 18 [(0, .ref (pl 0)), (1, .int (iI t)), (2, .int (iI w)), (3, .ref (pl (60 + 2 * j)))] [.int (iI (-1))] _ _ _ _
      refine pm_e_goto pm_a63_18 rfl ?_
      show pm_E _ _ _ 30 [(0, .ref (pl 0)), (1, .int (iI t)), (2, .int (iI w)), (3, .ref (pl (60 + 2 * j)))] [.int (iI (-1))] _ _ _ _
      refine pm_e_ret pm_a63_30 rfl rfl rfl rfl rfl rfl rfl rfl ?_
      exact kb (by omega)
  · skip
    show pm_E _ _ _ 5 [(0, .ref (pl 0)), (1, .int (iI t)), (2, .int (iI w))] [.null] _ _ _ _
    refine pm_e_sim pm_a63_5 rfl ?_
    show pm_E _ _ _ 6 [(0, .ref (pl 0)), (1, .int (iI t)), (2, .int (iI w)), (3, .null)] [] _ _ _ _
    refine pm_e_sim pm_a63_6 rfl ?_
    show pm_E _ _ _ 7 [(0, .ref (pl 0)), (1, .int (iI t)), (2, .int (iI w)), (3, .null)] [.null] _ _ _ _
    refine pm_e_jmp pm_a63_7 rfl rfl ?_
    show pm_E _ _ _ 17 [(0, .ref (pl 0)), (1, .int (iI t)), (2, .int (iI w)), (3, .null)] [] _ _ _ _
    refine pm_e_sim pm_a63_17 rfl ?_
    refine pm_e_top (y := iI (-1)) (by decide +kernel) ?_
    show pm_E _ _ _ 18 [(0, .ref (pl 0)), (1, .int (iI t)), (2, .int (iI w)), (3, .null)] [.int (iI (-1))] _ _ _ _
    refine pm_e_goto pm_a63_18 rfl ?_
    show pm_E _ _ _ 30 [(0, .ref (pl 0)), (1, .int (iI t)), (2, .int (iI w)), (3, .null)] [.int (iI (-1))] _ _ _ _
    refine pm_e_ret pm_a63_30 rfl rfl rfl rfl rfl rfl rfl rfl ?_
    exact kb (by omega)
