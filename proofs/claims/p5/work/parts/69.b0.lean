/-! THE LAW: its loop -/
set_option maxHeartbeats 4000000 in
set_option maxRecDepth 100000 in
theorem C_steps_b {d n : Nat} {kd pl : Nat → Nat} {s : Nat → Int} {a : Nat → Int → Int} {c : Nat → cdt} {M : List va_E} {Q : Option Value → List va_E → Nat → Nat → Prop} {N : Int} {T : Int → List Int} {t w m : Int} (hW : wf n kd pl) (hS : cS n kd pl s c N T) (hT : ∀ t, 0 ≤ t → t < N → (T t).length ≤ 500 ∧ ∃ f, tL f 0 (T t)) (ht : in32 t) (hw : in32 w) (hm : in32 m) (hbad : 200 < m) (k : Q (some (.int (iI (-1)))) (ch n kd pl s a c M) 0 0) : pm_E none (d + 7) pm_mm87 0 [(0, .ref (pl 0)), (1, .int (iI t)), (2, .int (iI w)), (3, .int (iI m))] [] (ch n kd pl s a c M) 0 0 Q := by
  obtain ⟨hS1, hS2, hS3, hS4⟩ := id hS
  obtain ⟨_, _⟩ := id ht
  obtain ⟨_, _⟩ := id hw
  obtain ⟨_, _⟩ := id hm
  refine pm_e_sim pm_a87_0 rfl ?_
  show pm_E _ _ _ 1 [(0, .ref (pl 0)), (1, .int (iI t)), (2, .int (iI w)), (3, .int (iI m))] [.ref (pl 0)] _ _ _ _
  refine pm_e_sim pm_a87_1 rfl ?_
  show pm_E _ _ _ 2 [(0, .ref (pl 0)), (1, .int (iI t)), (2, .int (iI w)), (3, .int (iI m))] [.int (iI t), .ref (pl 0)] _ _ _ _
  refine pm_i_callv (k := (pl 0)) (T2 := pm_mm45) pm_a87_2 rfl rfl rfl (cg_0 hW) ⟨Nat.le_of_ble_eq_true rfl, Nat.le_of_ble_eq_true rfl, rfl, by decide +kernel⟩ ?_
  show pm_E none _ _ 0 [(0, .ref (pl 0)), (1, .int (iI t))] [] _ _ _ _
  refine C_termAt hW hS ⟨by omega, by omega⟩ (fun t0j t1j j ej hj lj => ?_) (fun t9j => ?_)
  · skip
    have rbj := rm_b j
    have rmj : rm j = 500 := if_neg (by omega)
    obtain ⟨hlj, _⟩ := hT t (by omega) (by omega)
    obtain ⟨ovj, zj, gj⟩ : (c j).2.1 = 0 ∧ (c j).1 = (T t).length ∧ rg (c j).2.2 (T t).length 0 = T t := by rcases lj.2 with ⟨_, h1, h2, h3⟩ | ⟨h, _⟩; exact ⟨h1, h2, h3⟩; omega
    show pm_E _ _ _ 5 [(0, .ref (pl 0)), (1, .int (iI t)), (2, .int (iI w)), (3, .int (iI m))] [.ref (pl (60 + 2 * j))] _ _ _ _
    refine pm_e_sim pm_a87_5 rfl ?_
    show pm_E _ _ _ 7 [(0, .ref (pl 0)), (1, .int (iI t)), (2, .int (iI w)), (3, .int (iI m)), (4, .ref (pl (60 + 2 * j)))] [] _ _ _ _
    refine pm_e_sim pm_a87_7 rfl ?_
    show pm_E _ _ _ 9 [(0, .ref (pl 0)), (1, .int (iI t)), (2, .int (iI w)), (3, .int (iI m)), (4, .ref (pl (60 + 2 * j)))] [.ref (pl (60 + 2 * j))] _ _ _ _
    refine pm_e_jmp pm_a87_9 rfl rfl ?_
    show pm_E _ _ _ 12 [(0, .ref (pl 0)), (1, .int (iI t)), (2, .int (iI w)), (3, .int (iI m)), (4, .ref (pl (60 + 2 * j)))] [] _ _ _ _
    refine pm_e_sim pm_a87_12 rfl ?_
    show pm_E _ _ _ 13 [(0, .ref (pl 0)), (1, .int (iI t)), (2, .int (iI w)), (3, .int (iI m)), (4, .ref (pl (60 + 2 * j)))] [.int (iI w)] _ _ _ _
    refine pm_e_call (T2 := pm_mm64) pm_a87_13 rfl rfl rfl rfl rfl rfl rfl rfl rfl ?_
    show pm_E none _ _ 0 [(0, .int (iI w))] [] _ _ _ _
    refine C_isWay ⟨by omega, by omega⟩ (fun _ _ => ?_) (fun _ => ?_)
    · skip
      show pm_E _ _ _ 16 [(0, .ref (pl 0)), (1, .int (iI t)), (2, .int (iI w)), (3, .int (iI m)), (4, .ref (pl (60 + 2 * j)))] [.int (iI 1)] _ _ _ _
      refine pm_e_iff pm_a87_16 rfl (by decide +kernel) ?_
      show pm_E _ _ _ 19 [(0, .ref (pl 0)), (1, .int (iI t)), (2, .int (iI w)), (3, .int (iI m)), (4, .ref (pl (60 + 2 * j)))] [] _ _ _ _
      refine pm_e_sim pm_a87_19 rfl ?_
      show pm_E _ _ _ 20 [(0, .ref (pl 0)), (1, .int (iI t)), (2, .int (iI w)), (3, .int (iI m)), (4, .ref (pl (60 + 2 * j)))] [.int (iI m)] _ _ _ _
      refine pm_e_call (T2 := pm_mm88) pm_a87_20 rfl rfl rfl rfl rfl rfl rfl rfl rfl ?_
      show pm_E none _ _ 0 [(0, .int (iI m))] [] _ _ _ _
      refine C_isFuel ⟨by omega, by omega⟩ (fun _ _ => ?_) (fun _ => ?_)
      · skip
        show pm_E _ _ _ 23 [(0, .ref (pl 0)), (1, .int (iI t)), (2, .int (iI w)), (3, .int (iI m)), (4, .ref (pl (60 + 2 * j)))] [.int (iI 1)] _ _ _ _
        refine pm_e_ift pm_a87_23 rfl (by decide +kernel) ?_
        show pm_E _ _ _ 28 [(0, .ref (pl 0)), (1, .int (iI t)), (2, .int (iI w)), (3, .int (iI m)), (4, .ref (pl (60 + 2 * j)))] [] _ _ _ _
        exfalso; omega
      · skip
        show pm_E _ _ _ 23 [(0, .ref (pl 0)), (1, .int (iI t)), (2, .int (iI w)), (3, .int (iI m)), (4, .ref (pl (60 + 2 * j)))] [.int (iI 0)] _ _ _ _
        refine pm_e_iff pm_a87_23 rfl (by decide +kernel) ?_
        show pm_E _ _ _ 26 [(0, .ref (pl 0)), (1, .int (iI t)), (2, .int (iI w)), (3, .int (iI m)), (4, .ref (pl (60 + 2 * j)))] [] _ _ _ _
        refine pm_e_sim pm_a87_26 rfl ?_
        refine pm_e_top (y := iI (-1)) (by decide +kernel) ?_
        show pm_E _ _ _ 27 [(0, .ref (pl 0)), (1, .int (iI t)), (2, .int (iI w)), (3, .int (iI m)), (4, .ref (pl (60 + 2 * j)))] [.int (iI (-1))] _ _ _ _
        refine pm_e_ret pm_a87_27 rfl rfl rfl rfl rfl rfl rfl rfl ?_
        exact k
    · skip
      show pm_E _ _ _ 16 [(0, .ref (pl 0)), (1, .int (iI t)), (2, .int (iI w)), (3, .int (iI m)), (4, .ref (pl (60 + 2 * j)))] [.int (iI 0)] _ _ _ _
      refine pm_e_ift pm_a87_16 rfl (by decide +kernel) ?_
      show pm_E _ _ _ 26 [(0, .ref (pl 0)), (1, .int (iI t)), (2, .int (iI w)), (3, .int (iI m)), (4, .ref (pl (60 + 2 * j)))] [] _ _ _ _
      refine pm_e_sim pm_a87_26 rfl ?_
      refine pm_e_top (y := iI (-1)) (by decide +kernel) ?_
      show pm_E _ _ _ 27 [(0, .ref (pl 0)), (1, .int (iI t)), (2, .int (iI w)), (3, .int (iI m)), (4, .ref (pl (60 + 2 * j)))] [.int (iI (-1))] _ _ _ _
      refine pm_e_ret pm_a87_27 rfl rfl rfl rfl rfl rfl rfl rfl ?_
      exact k
  · skip
    show pm_E _ _ _ 5 [(0, .ref (pl 0)), (1, .int (iI t)), (2, .int (iI w)), (3, .int (iI m))] [.null] _ _ _ _
    refine pm_e_sim pm_a87_5 rfl ?_
    show pm_E _ _ _ 7 [(0, .ref (pl 0)), (1, .int (iI t)), (2, .int (iI w)), (3, .int (iI m)), (4, .null)] [] _ _ _ _
    refine pm_e_sim pm_a87_7 rfl ?_
    show pm_E _ _ _ 9 [(0, .ref (pl 0)), (1, .int (iI t)), (2, .int (iI w)), (3, .int (iI m)), (4, .null)] [.null] _ _ _ _
    refine pm_e_jmp pm_a87_9 rfl rfl ?_
    show pm_E _ _ _ 26 [(0, .ref (pl 0)), (1, .int (iI t)), (2, .int (iI w)), (3, .int (iI m)), (4, .null)] [] _ _ _ _
    refine pm_e_sim pm_a87_26 rfl ?_
    refine pm_e_top (y := iI (-1)) (by decide +kernel) ?_
    show pm_E _ _ _ 27 [(0, .ref (pl 0)), (1, .int (iI t)), (2, .int (iI w)), (3, .int (iI m)), (4, .null)] [.int (iI (-1))] _ _ _ _
    refine pm_e_ret pm_a87_27 rfl rfl rfl rfl rfl rfl rfl rfl ?_
    exact k
set_option maxHeartbeats 4000000 in
set_option maxRecDepth 100000 in
theorem LC_steps {L : Nat} {xs : Nat → Int32} {t n nc ns : Nat} {kd pl : Nat → Nat} {s : Nat → Int} {a : Nat → Int → Int} {c : Nat → cdt} {s1 : Nat → Int} {v1 : Int64} {a1 : Nat → Int → Int} {nm : Nat → Int64} {N i : Int} {T : Int → List Int} {Q : Option Value → List va_E → Nat → Nat → Prop} (hi0 : 0 ≤ i) (hi6 : i + 6 ≤ L) (hL : L ≤ 3072) (hok : okT N T) (hc : cI n kd pl s a c N T) (hm : mI s a s1 a1 N T) (hs : ∀ i, in32 (s i)) (hin : ∀ i j, in32 (a i j)) (hin1 : ∀ i j, in32 (a1 i j)) (hnc : nc ≤ 50 + 12 * t) (hns : ns ≤ 194358 + 503 * t + wt pl) (k : ∀ n' kd' pl' s' a' c' s1' v1' a1' nm' nc' ns', LI (t + 1) n' kd' pl' s' a' c' s1' a1' nc' ns' → pm_E (some (L, xs)) 11 pm_mm0 779 [(0, .retAddr 0), (1, .ref 0), (2, .ref 18), (3, .int (iI i))] [] (ch n' kd' pl' s' a' c' (mc s1' v1' a1' nm')) nc' ns' Q) : pm_E (some (L, xs)) 11 pm_mm0 463 [(0, .retAddr 0), (1, .ref 0), (2, .ref 18), (3, .int (iI i))] [] (ch n kd pl s a c (mc s1 v1 a1 nm)) nc ns Q := by
  obtain ⟨⟨hW, hn50, hq50⟩, hS, hf, ⟨h4, h4'⟩, hb, ⟨ho0, ho1⟩, ⟨h14, h14'⟩, hA, hY⟩ := id hc
  have hp0 : pl 0 = 0 := hW.2.2.2.2.2.2
  obtain ⟨hsh, m4, m3, m45, m45', mt⟩ := id hm
  obtain ⟨hN0, hN32, hT⟩ := id hok
  have s0 : s 0 = N := hS.1
  have m0 : s1 0 = N := hsh.1
  by_cases m200 : 200 < (xv xs i 3)
  rotate_left
  · exact LC_steps0 hi0 hi6 hL hok hc hm hs hin hin1 hnc hns (by omega) k
  refine pm_e_sim pm_a0_463 rfl ?_
  show pm_E _ _ _ 464 [(0, .retAddr 0), (1, .ref 0), (2, .ref 18), (3, .int (iI i))] [.ref 0] _ _ _ _
  refine pm_e_sim pm_a0_464 rfl ?_
  show pm_E _ _ _ 465 [(0, .retAddr 0), (1, .ref 0), (2, .ref 18), (3, .int (iI i))] [.retAddr 0, .ref 0] _ _ _ _
  refine pm_e_sim pm_a0_465 rfl ?_
  show pm_E _ _ _ 466 [(0, .retAddr 0), (1, .ref 0), (2, .ref 18), (3, .int (iI i))] [.int (iI i), .retAddr 0, .ref 0] _ _ _ _
  refine pm_e_sim pm_a0_466 rfl ?_
  refine pm_e_top (y := iI 1) (by decide +kernel) ?_
  show pm_E _ _ _ 467 [(0, .retAddr 0), (1, .ref 0), (2, .ref 18), (3, .int (iI i))] [.int (iI 1), .int (iI i), .retAddr 0, .ref 0] _ _ _ _
  refine pm_e_sim pm_a0_467 rfl ?_
  refine pm_e_top (y := iI (i + 1)) (iI_add _ _) ?_
  show pm_E _ _ _ 468 [(0, .retAddr 0), (1, .ref 0), (2, .ref 18), (3, .int (iI i))] [.int (iI (i + 1)), .retAddr 0, .ref 0] _ _ _ _
  refine pm_e_sld (j := (i + 1).toNat) pm_a0_468 (pm_ix_I (by omega) (by omega) ⟨by omega, by omega⟩) ?_
  refine pm_e_top (y := iI (xv xs i 1)) (iI_of _).symm ?_
  show pm_E _ _ _ 469 [(0, .retAddr 0), (1, .ref 0), (2, .ref 18), (3, .int (iI i))] [.int (iI (xv xs i 1)), .ref 0] _ _ _ _
  refine pm_e_sim pm_a0_469 rfl ?_
  show pm_E _ _ _ 470 [(0, .retAddr 0), (1, .ref 0), (2, .ref 18), (3, .int (iI i))] [.retAddr 0, .int (iI (xv xs i 1)), .ref 0] _ _ _ _
  refine pm_e_sim pm_a0_470 rfl ?_
  show pm_E _ _ _ 471 [(0, .retAddr 0), (1, .ref 0), (2, .ref 18), (3, .int (iI i))] [.int (iI i), .retAddr 0, .int (iI (xv xs i 1)), .ref 0] _ _ _ _
  refine pm_e_sim pm_a0_471 rfl ?_
  refine pm_e_top (y := iI 2) (by decide +kernel) ?_
  show pm_E _ _ _ 472 [(0, .retAddr 0), (1, .ref 0), (2, .ref 18), (3, .int (iI i))] [.int (iI 2), .int (iI i), .retAddr 0, .int (iI (xv xs i 1)), .ref 0] _ _ _ _
  refine pm_e_sim pm_a0_472 rfl ?_
  refine pm_e_top (y := iI (i + 2)) (iI_add _ _) ?_
  show pm_E _ _ _ 473 [(0, .retAddr 0), (1, .ref 0), (2, .ref 18), (3, .int (iI i))] [.int (iI (i + 2)), .retAddr 0, .int (iI (xv xs i 1)), .ref 0] _ _ _ _
  refine pm_e_sld (j := (i + 2).toNat) pm_a0_473 (pm_ix_I (by omega) (by omega) ⟨by omega, by omega⟩) ?_
  refine pm_e_top (y := iI (xv xs i 2)) (iI_of _).symm ?_
  show pm_E _ _ _ 474 [(0, .retAddr 0), (1, .ref 0), (2, .ref 18), (3, .int (iI i))] [.int (iI (xv xs i 2)), .int (iI (xv xs i 1)), .ref 0] _ _ _ _
  refine pm_e_sim pm_a0_474 rfl ?_
  show pm_E _ _ _ 475 [(0, .retAddr 0), (1, .ref 0), (2, .ref 18), (3, .int (iI i))] [.retAddr 0, .int (iI (xv xs i 2)), .int (iI (xv xs i 1)), .ref 0] _ _ _ _
  refine pm_e_sim pm_a0_475 rfl ?_
  show pm_E _ _ _ 476 [(0, .retAddr 0), (1, .ref 0), (2, .ref 18), (3, .int (iI i))] [.int (iI i), .retAddr 0, .int (iI (xv xs i 2)), .int (iI (xv xs i 1)), .ref 0] _ _ _ _
  refine pm_e_sim pm_a0_476 rfl ?_
  refine pm_e_top (y := iI 3) (by decide +kernel) ?_
  show pm_E _ _ _ 477 [(0, .retAddr 0), (1, .ref 0), (2, .ref 18), (3, .int (iI i))] [.int (iI 3), .int (iI i), .retAddr 0, .int (iI (xv xs i 2)), .int (iI (xv xs i 1)), .ref 0] _ _ _ _
  refine pm_e_sim pm_a0_477 rfl ?_
  refine pm_e_top (y := iI (i + 3)) (iI_add _ _) ?_
  show pm_E _ _ _ 478 [(0, .retAddr 0), (1, .ref 0), (2, .ref 18), (3, .int (iI i))] [.int (iI (i + 3)), .retAddr 0, .int (iI (xv xs i 2)), .int (iI (xv xs i 1)), .ref 0] _ _ _ _
  refine pm_e_sld (j := (i + 3).toNat) pm_a0_478 (pm_ix_I (by omega) (by omega) ⟨by omega, by omega⟩) ?_
  refine pm_e_top (y := iI (xv xs i 3)) (iI_of _).symm ?_
  show pm_E _ _ _ 479 [(0, .retAddr 0), (1, .ref 0), (2, .ref 18), (3, .int (iI i))] [.int (iI (xv xs i 3)), .int (iI (xv xs i 2)), .int (iI (xv xs i 1)), .ref 0] _ _ _ _
  refine pm_i_callv (k := 0) (T2 := pm_mm87) pm_a0_479 rfl rfl rfl (cg0 hW) ⟨Nat.le_of_ble_eq_true rfl, Nat.le_of_ble_eq_true rfl, rfl, by decide +kernel⟩ ?_
  show pm_E none _ _ 0 ((0, .ref 0) :: [(1, .int (iI (xv xs i 1))), (2, .int (iI (xv xs i 2))), (3, .int (iI (xv xs i 3)))]) [] _ _ _ _
  refine pm_e_lv0 hp0 ?_
  refine C_steps_b hW hS hT xv_in xv_in xv_in m200 ?_
  show pm_E _ _ _ 482 [(0, .retAddr 0), (1, .ref 0), (2, .ref 18), (3, .int (iI i))] [.int (iI (-1))] _ _ _ _
  refine pm_e_sim pm_a0_482 rfl ?_
  show pm_E _ _ _ 483 [(0, .retAddr 0), (1, .ref 0), (2, .ref 18), (3, .int (iI i))] [] _ _ _ _
  exact LM_steps_b hi0 hi6 hL hok hc hm hin1 (by omega) (by omega) (by omega) k
set_option maxHeartbeats 4000000 in
set_option maxRecDepth 100000 in
theorem L_loop {L : Nat} {xs : Nat → Int32} {Q : Option Value → List va_E → Nat → Nat → Prop} (hL : L ≤ 3072) (hQ : ∀ ph c m, c ≤ 600000 → m ≤ 7302250 → Q (some (.int 1)) ph c m) : ∀ (f t n : Nat) (kd pl : Nat → Nat) (s : Nat → Int) (a : Nat → Int → Int) (c : Nat → cdt) (s1 : Nat → Int) (v1 : Int64) (a1 : Nat → Int → Int) (nm : Nat → Int64) (nc ns : Nat) (i : Int), i = 6 * (t : Int) → i ≤ 3072 → LI t n kd pl s a c s1 a1 nc ns → 3072 - i < (f : Int) → pm_E (some (L, xs)) 11 pm_mm0 18 [(0, .retAddr 0), (1, .ref 0), (2, .ref 18), (3, .int (iI i))] [] (ch n kd pl s a c (mc s1 v1 a1 nm)) nc ns Q := by
  intro f
  induction f with
  | zero =>
    intro t n kd pl s a c s1 v1 a1 nm nc ns i hi hi2 hLI hf
    exfalso; omega
  | succ f ih =>
    intro t n kd pl s a c s1 v1 a1 nm nc ns i hi hi2 hLI hf
    obtain ⟨N, T, hok, hc0, hm0, hnc, hns⟩ := hLI
    have hc : cI n kd pl (nrS s) (nrA a) c N T := cI_N hok (fun j => in32_of _) (cI_S hc0)
    have e4 : nrS s 4 = s 4 := by have h9 := hc0.2.2.2.1; exact iI_t ⟨by omega, by omega⟩
    have hm : mI (nrS s) (nrA a) s1 (nrA a1) N T := ⟨sh_norm hok hm0.1, hm0.2.1.trans e4.symm, congrArg nrI hm0.2.2.1, hm0.2.2.2.1, hm0.2.2.2.2.1, tld_n hm0.2.2.2.2.2⟩
    have hs : ∀ j, in32 (nrS s j) := fun j => in32_of _
    have hin : ∀ j q, in32 (nrA a j q) := fun j q => nrA_in j q
    have hin1 : ∀ j q, in32 (nrA a1 j q) := fun j q => nrA_in j q
    rw [ch_normS, ch_norm, mc_norm]
    generalize nrS s = s at hc hm hs ⊢
    generalize nrA a = a at hc hm hin ⊢
    generalize nrA a1 = a1 at hm hin1 ⊢
    have hwt : wt pl ≤ 19620 := by unfold wt; split <;> split <;> omega
    have k : ∀ n' kd' pl' s' a' c' s1' v1' a1' nm' nc' ns', i + 6 ≤ L → LI (t + 1) n' kd' pl' s' a' c' s1' a1' nc' ns' → pm_E (some (L, xs)) 11 pm_mm0 779 [(0, .retAddr 0), (1, .ref 0), (2, .ref 18), (3, .int (iI i))] [] (ch n' kd' pl' s' a' c' (mc s1' v1' a1' nm')) nc' ns' Q := by
      intro n' kd' pl' s' a' c' s1' v1' a1' nm' nc' ns' h6 h
      refine pm_e_inc (y := iI (i + 6)) pm_a0_779 rfl (iI_add _ _) (by decide +kernel) rfl ?_
      show pm_E _ _ _ 782 [(0, .retAddr 0), (1, .ref 0), (2, .ref 18), (3, .int (iI (i + 6)))] [] _ _ _ _
      refine pm_e_goto pm_a0_782 rfl ?_
      exact ih (t + 1) n' kd' pl' s' a' c' s1' v1' a1' nm' nc' ns' (i + 6) (by omega) (by omega) h (by omega)
    refine pm_e_sim pm_a0_18 rfl ?_
    refine pm_e_sim pm_a0_19 rfl ?_
    show pm_E _ _ _ 20 [(0, .retAddr 0), (1, .ref 0), (2, .ref 18), (3, .int (iI i))] [.retAddr 0, .int (iI i)] _ _ _ _
    refine pm_e_rd pm_a0_20 rfl rfl rfl ?_
    refine pm_e_top (y := iI (L : Int)) iI_nat ?_
    show pm_E _ _ _ 21 [(0, .retAddr 0), (1, .ref 0), (2, .ref 18), (3, .int (iI i))] [.int (iI (L : Int)), .int (iI i)] _ _ _ _
    refine pm_e_sim pm_a0_21 rfl ?_
    refine pm_e_top (y := iI 6) (by decide +kernel) ?_
    show pm_E _ _ _ 23 [(0, .retAddr 0), (1, .ref 0), (2, .ref 18), (3, .int (iI i))] [.int (iI 6), .int (iI (L : Int)), .int (iI i)] _ _ _ _
    refine pm_e_sim pm_a0_23 rfl ?_
    refine pm_e_top (y := iI ((L : Int) - 6)) (iI_sub _ _) ?_
    show pm_E _ _ _ 24 [(0, .retAddr 0), (1, .ref 0), (2, .ref 18), (3, .int (iI i))] [.int (iI ((L : Int) - 6)), .int (iI i)] _ _ _ _
    refine pm_c_gt (t := 785) pm_a0_24 rfl ⟨by omega, by omega⟩ ⟨by omega, by omega⟩ (fun hx => ?_) (fun hx => ?_)
    · show pm_E _ _ _ 785 [(0, .retAddr 0), (1, .ref 0), (2, .ref 18), (3, .int (iI i))] [] _ _ _ _
      refine pm_e_sim pm_a0_785 rfl ?_
      refine pm_e_top (y := 1) (by decide +kernel) ?_
      show pm_E _ _ _ 786 [(0, .retAddr 0), (1, .ref 0), (2, .ref 18), (3, .int (iI i))] [.int 1] _ _ _ _
      refine pm_e_ret pm_a0_786 rfl rfl rfl rfl rfl rfl rfl rfl ?_
      exact hQ _ _ _ (by omega) (by omega)
    have h6 : i + 6 ≤ (L : Int) := by omega
    have hi0 : 0 ≤ i := by omega
    show pm_E _ _ _ 27 [(0, .retAddr 0), (1, .ref 0), (2, .ref 18), (3, .int (iI i))] [] _ _ _ _
    refine pm_e_sim pm_a0_27 rfl ?_
    refine pm_e_sim pm_a0_28 rfl ?_
    show pm_E _ _ _ 29 [(0, .retAddr 0), (1, .ref 0), (2, .ref 18), (3, .int (iI i))] [.int (iI i), .retAddr 0] _ _ _ _
    refine pm_e_sld (j := i.toNat) pm_a0_29 (pm_ix_I (by omega) (by omega) ⟨by omega, by omega⟩) ?_
    show pm_E _ _ _ 30 [(0, .retAddr 0), (1, .ref 0), (2, .ref 18), (3, .int (iI i))] [.int (xs i.toNat)] _ _ _ _
    refine pm_e_sim pm_a0_30 rfl ?_
    refine pm_e_top (y := 31) (by decide +kernel) ?_
    show pm_E _ _ _ 32 [(0, .retAddr 0), (1, .ref 0), (2, .ref 18), (3, .int (iI i))] [.int 31, .int (xs i.toNat)] _ _ _ _
    refine pm_e_sim pm_a0_32 rfl ?_
    obtain ⟨q, hq, eq⟩ := pk_andE (xs i.toNat) (m := 31) 5 (by decide +kernel)
    refine pm_e_top (y := iI (q : Int)) (eq.trans iI_nat) ?_
    have hq : q < 32 := hq
    show pm_E _ _ _ 33 [(0, .retAddr 0), (1, .ref 0), (2, .ref 18), (3, .int (iI i))] [.int (iI (q : Int))] _ _ _ _
    by_cases q0 : (q : Int) = 0
    · refine pm_e_top (y := iI 0) (congrArg iI q0) ?_
      refine pm_e_tsi (t := 140) pm_a0_33 rfl rfl ?_
      exact LC_feed hi0 h6 hL hok hc hm hs hin hin1 hnc hns (fun n' kd' pl' s' a' c' s1' v1' a1' nm' nc' ns' h => k n' kd' pl' s' a' c' s1' v1' a1' nm' nc' ns' h6 h)
    by_cases q1 : (q : Int) = 1
    · refine pm_e_top (y := iI 1) (congrArg iI q1) ?_
      refine pm_e_tsi (t := 203) pm_a0_33 rfl rfl ?_
      exact LC_end hi0 h6 hL hok hc hm hs hin hin1 hnc hns (fun n' kd' pl' s' a' c' s1' v1' a1' nm' nc' ns' h => k n' kd' pl' s' a' c' s1' v1' a1' nm' nc' ns' h6 h)
    by_cases q2 : (q : Int) = 2
    · refine pm_e_top (y := iI 2) (congrArg iI q2) ?_
      refine pm_e_tsi (t := 226) pm_a0_33 rfl rfl ?_
      exact LC_term hi0 h6 hL hok hc hm hs hin hin1 hnc hns (fun n' kd' pl' s' a' c' s1' v1' a1' nm' nc' ns' h => k n' kd' pl' s' a' c' s1' v1' a1' nm' nc' ns' h6 h)
    by_cases q3 : (q : Int) = 3
    · refine pm_e_top (y := iI 3) (congrArg iI q3) ?_
      refine pm_e_tsi (t := 239) pm_a0_33 rfl rfl ?_
      exact LC_fault hi0 h6 hL hok hc hm hs hin hin1 hnc hns (fun n' kd' pl' s' a' c' s1' v1' a1' nm' nc' ns' h => k n' kd' pl' s' a' c' s1' v1' a1' nm' nc' ns' h6 h)
    by_cases q4 : (q : Int) = 4
    · refine pm_e_top (y := iI 4) (congrArg iI q4) ?_
      refine pm_e_tsi (t := 252) pm_a0_33 rfl rfl ?_
      exact LC_size hi0 h6 hL hok hc hm hs hin hin1 hnc hns (fun n' kd' pl' s' a' c' s1' v1' a1' nm' nc' ns' h => k n' kd' pl' s' a' c' s1' v1' a1' nm' nc' ns' h6 h)
    by_cases q5 : (q : Int) = 5
    · refine pm_e_top (y := iI 5) (congrArg iI q5) ?_
      refine pm_e_tsi (t := 275) pm_a0_33 rfl rfl ?_
      exact LC_code hi0 h6 hL hok hc hm hs hin hin1 hnc hns (fun n' kd' pl' s' a' c' s1' v1' a1' nm' nc' ns' h => k n' kd' pl' s' a' c' s1' v1' a1' nm' nc' ns' h6 h)
    by_cases q6 : (q : Int) = 6
    · refine pm_e_top (y := iI 6) (congrArg iI q6) ?_
      refine pm_e_tsi (t := 308) pm_a0_33 rfl rfl ?_
      exact LC_letter hi0 h6 hL hok hc hm hs hin hin1 hnc hns (fun n' kd' pl' s' a' c' s1' v1' a1' nm' nc' ns' h => k n' kd' pl' s' a' c' s1' v1' a1' nm' nc' ns' h6 h)
    by_cases q7 : (q : Int) = 7
    · refine pm_e_top (y := iI 7) (congrArg iI q7) ?_
      refine pm_e_tsi (t := 341) pm_a0_33 rfl rfl ?_
      exact LC_apply hi0 h6 hL hok hc hm hs hin hin1 hnc hns (fun n' kd' pl' s' a' c' s1' v1' a1' nm' nc' ns' h => k n' kd' pl' s' a' c' s1' v1' a1' nm' nc' ns' h6 h)
    by_cases q8 : (q : Int) = 8
    · refine pm_e_top (y := iI 8) (congrArg iI q8) ?_
      refine pm_e_tsi (t := 374) pm_a0_33 rfl rfl ?_
      exact LC_copy hi0 h6 hL hok hc hm hs hin hin1 hnc hns (fun n' kd' pl' s' a' c' s1' v1' a1' nm' nc' ns' h => k n' kd' pl' s' a' c' s1' v1' a1' nm' nc' ns' h6 h)
    by_cases q9 : (q : Int) = 9
    · refine pm_e_top (y := iI 9) (congrArg iI q9) ?_
      refine pm_e_tsi (t := 397) pm_a0_33 rfl rfl ?_
      exact LC_same hi0 h6 hL hok hc hm hs hin hin1 hnc hns (fun n' kd' pl' s' a' c' s1' v1' a1' nm' nc' ns' h => k n' kd' pl' s' a' c' s1' v1' a1' nm' nc' ns' h6 h)
    by_cases q10 : (q : Int) = 10
    · refine pm_e_top (y := iI 10) (congrArg iI q10) ?_
      refine pm_e_tsi (t := 430) pm_a0_33 rfl rfl ?_
      exact LC_step hi0 h6 hL hok hc hm hs hin hin1 hnc hns (fun n' kd' pl' s' a' c' s1' v1' a1' nm' nc' ns' h => k n' kd' pl' s' a' c' s1' v1' a1' nm' nc' ns' h6 h)
    by_cases q11 : (q : Int) = 11
    · refine pm_e_top (y := iI 11) (congrArg iI q11) ?_
      refine pm_e_tsi (t := 463) pm_a0_33 rfl rfl ?_
      exact LC_steps hi0 h6 hL hok hc hm hs hin hin1 hnc hns (fun n' kd' pl' s' a' c' s1' v1' a1' nm' nc' ns' h => k n' kd' pl' s' a' c' s1' v1' a1' nm' nc' ns' h6 h)
    by_cases q12 : (q : Int) = 12
    · refine pm_e_top (y := iI 12) (congrArg iI q12) ?_
      refine pm_e_tsi (t := 506) pm_a0_33 rfl rfl ?_
      exact LC_told hi0 h6 hL hok hc hm hs hin hin1 hnc hns (fun n' kd' pl' s' a' c' s1' v1' a1' nm' nc' ns' h => k n' kd' pl' s' a' c' s1' v1' a1' nm' nc' ns' h6 h)
    by_cases q13 : (q : Int) = 13
    · refine pm_e_top (y := iI 13) (congrArg iI q13) ?_
      refine pm_e_tsi (t := 529) pm_a0_33 rfl rfl ?_
      exact LC_redex hi0 h6 hL hok hc hm hs hin hin1 hnc hns (fun n' kd' pl' s' a' c' s1' v1' a1' nm' nc' ns' h => k n' kd' pl' s' a' c' s1' v1' a1' nm' nc' ns' h6 h)
    by_cases q14 : (q : Int) = 14
    · refine pm_e_top (y := iI 14) (congrArg iI q14) ?_
      refine pm_e_tsi (t := 562) pm_a0_33 rfl rfl ?_
      exact LC_redexes hi0 h6 hL hok hc hm hs hin hin1 hnc hns (fun n' kd' pl' s' a' c' s1' v1' a1' nm' nc' ns' h => k n' kd' pl' s' a' c' s1' v1' a1' nm' nc' ns' h6 h)
    by_cases q15 : (q : Int) = 15
    · refine pm_e_top (y := iI 15) (congrArg iI q15) ?_
      refine pm_e_tsi (t := 585) pm_a0_33 rfl rfl ?_
      exact LC_abstracted hi0 h6 hL hok hc hm hs hin hin1 hnc hns (fun n' kd' pl' s' a' c' s1' v1' a1' nm' nc' ns' h => k n' kd' pl' s' a' c' s1' v1' a1' nm' nc' ns' h6 h)
    by_cases q16 : (q : Int) = 16
    · refine pm_e_top (y := iI 16) (congrArg iI q16) ?_
      refine pm_e_tsi (t := 608) pm_a0_33 rfl rfl ?_
      exact LC_number hi0 h6 hL hok hc hm hs hin hin1 hnc hns (fun n' kd' pl' s' a' c' s1' v1' a1' nm' nc' ns' h => k n' kd' pl' s' a' c' s1' v1' a1' nm' nc' ns' h6 h)
    by_cases q17 : (q : Int) = 17
    · refine pm_e_top (y := iI 17) (congrArg iI q17) ?_
      refine pm_e_tsi (t := 631) pm_a0_33 rfl rfl ?_
      exact LC_read hi0 h6 hL hok hc hm hs hin hin1 hnc hns (fun n' kd' pl' s' a' c' s1' v1' a1' nm' nc' ns' h => k n' kd' pl' s' a' c' s1' v1' a1' nm' nc' ns' h6 h)
    by_cases q18 : (q : Int) = 18
    · refine pm_e_top (y := iI 18) (congrArg iI q18) ?_
      refine pm_e_tsi (t := 664) pm_a0_33 rfl rfl ?_
      exact LC_typed hi0 h6 hL hok hc hm hs hin hin1 hnc hns (fun n' kd' pl' s' a' c' s1' v1' a1' nm' nc' ns' h => k n' kd' pl' s' a' c' s1' v1' a1' nm' nc' ns' h6 h)
    by_cases q19 : (q : Int) = 19
    · refine pm_e_top (y := iI 19) (congrArg iI q19) ?_
      refine pm_e_tsi (t := 687) pm_a0_33 rfl rfl ?_
      exact LC_type hi0 h6 hL hok hc hm hs hin hin1 hnc hns (fun n' kd' pl' s' a' c' s1' v1' a1' nm' nc' ns' h => k n' kd' pl' s' a' c' s1' v1' a1' nm' nc' ns' h6 h)
    by_cases q20 : (q : Int) = 20
    · refine pm_e_top (y := iI 20) (congrArg iI q20) ?_
      refine pm_e_tsi (t := 710) pm_a0_33 rfl rfl ?_
      exact LC_about hi0 h6 hL hok hc hm hs hin hin1 hnc hns (fun n' kd' pl' s' a' c' s1' v1' a1' nm' nc' ns' h => k n' kd' pl' s' a' c' s1' v1' a1' nm' nc' ns' h6 h)
    by_cases q21 : (q : Int) = 21
    · refine pm_e_top (y := iI 21) (congrArg iI q21) ?_
      refine pm_e_tsi (t := 743) pm_a0_33 rfl rfl ?_
      exact LC_drop hi0 h6 hL hok hc hm hs hin hin1 hnc hns (fun n' kd' pl' s' a' c' s1' v1' a1' nm' nc' ns' h => k n' kd' pl' s' a' c' s1' v1' a1' nm' nc' ns' h6 h)
    by_cases q22 : (q : Int) = 22
    · refine pm_e_top (y := iI 22) (congrArg iI q22) ?_
      refine pm_e_tsi (t := 756) pm_a0_33 rfl rfl ?_
      exact LC_count hi0 h6 hL hok hc hm hs hin hin1 hnc hns (fun n' kd' pl' s' a' c' s1' v1' a1' nm' nc' ns' h => k n' kd' pl' s' a' c' s1' v1' a1' nm' nc' ns' h6 h)
    refine pm_e_tso (t := 779) pm_a0_33 (by rw [iI_t ⟨by omega, by omega⟩]; omega) rfl ?_
    exact k _ _ _ _ _ _ _ _ _ _ _ _ h6 ⟨N, T, hok, hc, hm, by omega, by omega⟩
