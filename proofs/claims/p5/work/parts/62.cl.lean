/-! THE CLASS: steps, about, count -/
theorem updS_o {s : Nat → Int} {k i : Nat} {v : Int} (h : i ≠ k) : updS s k v i = s i := by unfold updS; rw [if_neg h]
set_option maxHeartbeats 4000000 in
set_option maxRecDepth 100000 in
theorem C_steps_l {d n : Nat} {kd pl : Nat → Nat} {M : List va_E} {Q : Option Value → List va_E → Nat → Nat → Prop} {j : Nat} {t w m : Int} (hW : wf n kd pl) (hj : j < 38 ∧ al n kd pl (60 + 2 * j)) (hj1 : j ≠ 1) (hj2 : j ≠ 2) (hw : 0 ≤ w ∧ w ≤ 3) (hm : 0 ≤ m ∧ m ≤ 200) : ∀ (f : Nat) (i : Int) (s : Nat → Int) (a : Nat → Int → Int) (c : Nat → cdt) (l : List Int), 0 ≤ i → i ≤ m → 0 ≤ s 3 → s 3 ≤ 1000 → s 2 = 1 → md (c j) (rm j) l → l.length ≤ 500 → (∃ f, tL f 0 l) → okx (rm 1) (c 1) → (∀ q, in32 (a 1 q)) → (∀ s' a' c' r l', (∀ i, i ≠ 2 → i ≠ 3 → s' i = s i) → shM a a' → (∀ i, i ≠ 1 → i ≠ j → c' i = c i) → okx (rm 1) (c' 1) → md (c' j) (rm j) l' → l'.length ≤ 500 → stx w (m - i).toNat (s 3) l (r - i) (s' 2) (s' 3) l' → Q (some (.int (iI r))) (ch n kd pl s' a' c' M) 0 0) → m - i < (f : Int) → pm_E none (d + 7) pm_mm87 41 [(0, .ref (pl 0)), (1, .int (iI t)), (2, .int (iI w)), (3, .int (iI m)), (4, .ref (pl (60 + 2 * j))), (5, .int (iI i))] [] (ch n kd pl s a c M) 0 0 Q := by
  intro f
  induction f with
  | zero =>
    intro i s a c l hi0 hi1 hg0 hg1 hs2 hl hlen htL ho1 hin k hf
    exfalso; omega
  | succ f ih =>
    intro i s a c l hi0 hi1 hg0 hg1 hs2 hl hlen htL ho1 hin k hf
    have rb := rm_b j
    refine pm_e_sim pm_a87_41 rfl ?_
    show pm_E _ _ _ 43 [(0, .ref (pl 0)), (1, .int (iI t)), (2, .int (iI w)), (3, .int (iI m)), (4, .ref (pl (60 + 2 * j))), (5, .int (iI i))] [.int (iI i)] _ _ _ _
    refine pm_e_sim pm_a87_43 rfl ?_
    show pm_E _ _ _ 44 [(0, .ref (pl 0)), (1, .int (iI t)), (2, .int (iI w)), (3, .int (iI m)), (4, .ref (pl (60 + 2 * j))), (5, .int (iI i))] [.int (iI m), .int (iI i)] _ _ _ _
    refine pm_c_ge (t := 106) pm_a87_44 rfl ⟨by omega, by omega⟩ ⟨by omega, by omega⟩ (fun h_1 => ?_) (fun h_1 => ?_)
    · skip
      show pm_E _ _ _ 106 [(0, .ref (pl 0)), (1, .int (iI t)), (2, .int (iI w)), (3, .int (iI m)), (4, .ref (pl (60 + 2 * j))), (5, .int (iI i))] [] _ _ _ _
      refine pm_e_sim pm_a87_106 rfl ?_
      show pm_E _ _ _ 107 [(0, .ref (pl 0)), (1, .int (iI t)), (2, .int (iI w)), (3, .int (iI m)), (4, .ref (pl (60 + 2 * j))), (5, .int (iI i))] [.int (iI m)] _ _ _ _
      refine pm_e_ret pm_a87_107 rfl rfl rfl rfl rfl rfl rfl rfl ?_
      refine k s a c m l (fun _ _ _ => rfl) (shM_r hin) (fun _ _ _ => rfl) ho1 hl hlen ?_
      rw [show (m - i).toNat = 0 by omega]
      exact ⟨by omega, hs2, rfl, rfl⟩
    · skip
      show pm_E _ _ _ 47 [(0, .ref (pl 0)), (1, .int (iI t)), (2, .int (iI w)), (3, .int (iI m)), (4, .ref (pl (60 + 2 * j))), (5, .int (iI i))] [] _ _ _ _
      refine pm_e_sim pm_a87_47 rfl ?_
      show pm_E _ _ _ 48 [(0, .ref (pl 0)), (1, .int (iI t)), (2, .int (iI w)), (3, .int (iI m)), (4, .ref (pl (60 + 2 * j))), (5, .int (iI i))] [.ref (pl 0)] _ _ _ _
      refine pm_i_get pm_a87_48 rfl (cg_0 hW) rfl ?_
      show pm_E _ _ _ 51 [(0, .ref (pl 0)), (1, .int (iI t)), (2, .int (iI w)), (3, .int (iI m)), (4, .ref (pl (60 + 2 * j))), (5, .int (iI i))] [.ref (pl 15)] _ _ _ _
      refine pm_e_sim pm_a87_51 rfl ?_
      show pm_E _ _ _ 53 [(0, .ref (pl 0)), (1, .int (iI t)), (2, .int (iI w)), (3, .int (iI m)), (4, .ref (pl (60 + 2 * j))), (5, .int (iI i))] [.ref (pl (60 + 2 * j)), .ref (pl 15)] _ _ _ _
      refine pm_e_sim pm_a87_53 rfl ?_
      show pm_E _ _ _ 54 [(0, .ref (pl 0)), (1, .int (iI t)), (2, .int (iI w)), (3, .int (iI m)), (4, .ref (pl (60 + 2 * j))), (5, .int (iI i))] [.int (iI w), .ref (pl (60 + 2 * j)), .ref (pl 15)] _ _ _ _
      refine pm_i_callv (k := (pl 15)) (T2 := pm_mm65) pm_a87_54 rfl rfl rfl (cg_15 hW) ⟨Nat.le_of_ble_eq_true rfl, Nat.le_of_ble_eq_true rfl, rfl, by decide +kernel⟩ ?_
      show pm_E none _ _ 0 [(0, .ref (pl 15)), (1, .ref (pl (60 + 2 * j))), (2, .int (iI w))] [] _ _ _ _
      obtain ⟨ft, htl⟩ := htL
      refine C_turn hW hj hj1 hj2 hl hlen htl ho1 hin ⟨by omega, by omega⟩ (fun a1 c1 r l1 z1 z2 z3 z4 z5 z6 => ?_)
      have hr := stp_r z6
      obtain ⟨p1, p2, p3, p4⟩ := id z4.1
      have hst := stp_ok htl hlen z6
      have zl : (c1 j).1 = l1.length := by rcases z4.2 with ⟨_, _, h, _⟩ | ⟨h, _⟩; exact h; omega
      show pm_E _ _ _ 57 [(0, .ref (pl 0)), (1, .int (iI t)), (2, .int (iI w)), (3, .int (iI m)), (4, .ref (pl (60 + 2 * j))), (5, .int (iI i))] [.int (iI r)] _ _ _ _
      refine pm_e_sim pm_a87_57 rfl ?_
      show pm_E _ _ _ 59 [(0, .ref (pl 0)), (1, .int (iI t)), (2, .int (iI w)), (3, .int (iI m)), (4, .ref (pl (60 + 2 * j))), (5, .int (iI i)), (6, .int (iI r))] [] _ _ _ _
      refine pm_e_sim pm_a87_59 rfl ?_
      show pm_E _ _ _ 61 [(0, .ref (pl 0)), (1, .int (iI t)), (2, .int (iI w)), (3, .int (iI m)), (4, .ref (pl (60 + 2 * j))), (5, .int (iI i)), (6, .int (iI r))] [.int (iI r)] _ _ _ _
      refine pm_e_sim pm_a87_61 rfl ?_
      refine pm_e_top (y := iI 1) (by decide +kernel) ?_
      show pm_E _ _ _ 62 [(0, .ref (pl 0)), (1, .int (iI t)), (2, .int (iI w)), (3, .int (iI m)), (4, .ref (pl (60 + 2 * j))), (5, .int (iI i)), (6, .int (iI r))] [.int (iI 1), .int (iI r)] _ _ _ _
      refine pm_c_eq (t := 84) pm_a87_62 rfl ⟨by omega, by omega⟩ ⟨by omega, by omega⟩ (fun h_2 => ?_) (fun h_2 => ?_)
      · skip
        show pm_E _ _ _ 84 [(0, .ref (pl 0)), (1, .int (iI t)), (2, .int (iI w)), (3, .int (iI m)), (4, .ref (pl (60 + 2 * j))), (5, .int (iI i)), (6, .int (iI r))] [] _ _ _ _
        refine pm_e_sim pm_a87_84 rfl ?_
        show pm_E _ _ _ 85 [(0, .ref (pl 0)), (1, .int (iI t)), (2, .int (iI w)), (3, .int (iI m)), (4, .ref (pl (60 + 2 * j))), (5, .int (iI i)), (6, .int (iI r))] [.ref (pl 0)] _ _ _ _
        refine pm_e_sim pm_a87_85 rfl ?_
        show pm_E _ _ _ 86 [(0, .ref (pl 0)), (1, .int (iI t)), (2, .int (iI w)), (3, .int (iI m)), (4, .ref (pl (60 + 2 * j))), (5, .int (iI i)), (6, .int (iI r))] [.ref (pl 0), .ref (pl 0)] _ _ _ _
        refine pm_i_get pm_a87_86 rfl (cg_0 hW) rfl ?_
        show pm_E _ _ _ 89 [(0, .ref (pl 0)), (1, .int (iI t)), (2, .int (iI w)), (3, .int (iI m)), (4, .ref (pl (60 + 2 * j))), (5, .int (iI i)), (6, .int (iI r))] [.int (iI (s 3)), .ref (pl 0)] _ _ _ _
        refine pm_e_sim pm_a87_89 rfl ?_
        show pm_E _ _ _ 91 [(0, .ref (pl 0)), (1, .int (iI t)), (2, .int (iI w)), (3, .int (iI m)), (4, .ref (pl (60 + 2 * j))), (5, .int (iI i)), (6, .int (iI r))] [.ref (pl (60 + 2 * j)), .int (iI (s 3)), .ref (pl 0)] _ _ _ _
        refine pm_i_get pm_a87_91 rfl (cg_o hj) rfl ?_
        show pm_E _ _ _ 94 [(0, .ref (pl 0)), (1, .int (iI t)), (2, .int (iI w)), (3, .int (iI m)), (4, .ref (pl (60 + 2 * j))), (5, .int (iI i)), (6, .int (iI r))] [.int (iI ((c1 j).1)), .int (iI (s 3)), .ref (pl 0)] _ _ _ _
        refine pm_i_max pm_a87_94 rfl (Nat.le_of_ble_eq_true rfl) ⟨by omega, by omega⟩ ⟨by omega, by omega⟩ ?_
        show pm_E _ _ _ 97 [(0, .ref (pl 0)), (1, .int (iI t)), (2, .int (iI w)), (3, .int (iI m)), (4, .ref (pl (60 + 2 * j))), (5, .int (iI i)), (6, .int (iI r))] [.int (iI (max (s 3) ((c1 j).1))), .ref (pl 0)] _ _ _ _
        refine pm_i_put pm_a87_97 rfl (cg_0 hW) rfl (Nat.le_of_ble_eq_true rfl) (Or.inl rfl) (cw_3 hW (max (s 3) ((c1 j).1))) ?_
        show pm_E _ _ _ 100 [(0, .ref (pl 0)), (1, .int (iI t)), (2, .int (iI w)), (3, .int (iI m)), (4, .ref (pl (60 + 2 * j))), (5, .int (iI i)), (6, .int (iI r))] [] _ _ _ _
        refine pm_e_inc (y := iI (i + 1)) pm_a87_100 rfl (iI_add _ _) (by decide +kernel) rfl ?_
        show pm_E _ _ _ 103 [(0, .ref (pl 0)), (1, .int (iI t)), (2, .int (iI w)), (3, .int (iI m)), (4, .ref (pl (60 + 2 * j))), (5, .int (iI (i + 1))), (6, .int (iI r))] [] _ _ _ _
        refine pm_e_goto pm_a87_103 rfl ?_
        show pm_E _ _ _ 41 [(0, .ref (pl 0)), (1, .int (iI t)), (2, .int (iI w)), (3, .int (iI m)), (4, .ref (pl (60 + 2 * j))), (5, .int (iI (i + 1))), (6, .int (iI r))] [] _ _ _ _
        show pm_E _ _ _ 41 ([(0, .ref (pl 0)), (1, .int (iI t)), (2, .int (iI w)), (3, .int (iI m)), (4, .ref (pl (60 + 2 * j))), (5, .int (iI (i + 1)))] ++ [(6, .int (iI r))]) [] _ _ _ _
        refine pm_e_more [(6, .int (iI r))] (show ([0, 1, 2, 3, 4, 5, 6] : List Nat).Nodup from by decide) ?_
        refine ih _ _ a1 c1 l1 (by omega) (by omega) (by show 0 ≤ max (s 3) (c1 j).1; omega) (by show max (s 3) (c1 j).1 ≤ 1000; omega) (show s 2 = 1 from hs2) z4 z5 hst.2 z3 z1.2 (fun s2 a2 c2 r2 l2 y1 y2 y3 y4 y5 y6 y7 => k s2 a2 c2 r2 l2 (fun q q2 q3 => by rw [y1 q q2 q3, updS_o q3]) (shM_t z1 y2) (fun q q1 q2 => by rw [y3 q q1 q2, z2 q q1 q2]) y4 y5 y6 ?_) (by omega)
        rw [show (m - i).toNat = (m - (i + 1)).toNat + 1 by omega]
        have y8 : stx w (m - (i + 1)).toNat (max (s 3) (c1 j).1) l1 (r2 - (i + 1)) (s2 2) (s2 3) l2 := y7
        rw [zl, show r2 - (i + 1) = r2 - i - 1 by omega] at y8
        exact ⟨r, l1, z6, Or.inr ⟨by omega, y8⟩⟩
      · skip
        show pm_E _ _ _ 65 [(0, .ref (pl 0)), (1, .int (iI t)), (2, .int (iI w)), (3, .int (iI m)), (4, .ref (pl (60 + 2 * j))), (5, .int (iI i)), (6, .int (iI r))] [] _ _ _ _
        refine pm_e_sim pm_a87_65 rfl ?_
        show pm_E _ _ _ 66 [(0, .ref (pl 0)), (1, .int (iI t)), (2, .int (iI w)), (3, .int (iI m)), (4, .ref (pl (60 + 2 * j))), (5, .int (iI i)), (6, .int (iI r))] [.ref (pl 0)] _ _ _ _
        refine pm_e_sim pm_a87_66 rfl ?_
        show pm_E _ _ _ 68 [(0, .ref (pl 0)), (1, .int (iI t)), (2, .int (iI w)), (3, .int (iI m)), (4, .ref (pl (60 + 2 * j))), (5, .int (iI i)), (6, .int (iI r))] [.int (iI r), .ref (pl 0)] _ _ _ _
        refine pm_e_sim pm_a87_68 rfl ?_
        refine pm_e_top (y := iI (-3)) (by decide +kernel) ?_
        show pm_E _ _ _ 70 [(0, .ref (pl 0)), (1, .int (iI t)), (2, .int (iI w)), (3, .int (iI m)), (4, .ref (pl (60 + 2 * j))), (5, .int (iI i)), (6, .int (iI r))] [.int (iI (-3)), .int (iI r), .ref (pl 0)] _ _ _ _
        refine pm_c_ne (t := 77) pm_a87_70 rfl ⟨by omega, by omega⟩ ⟨by omega, by omega⟩ (fun h_3 => ?_) (fun h_3 => ?_)
        · skip
          show pm_E _ _ _ 77 [(0, .ref (pl 0)), (1, .int (iI t)), (2, .int (iI w)), (3, .int (iI m)), (4, .ref (pl (60 + 2 * j))), (5, .int (iI i)), (6, .int (iI r))] [.ref (pl 0)] _ _ _ _
          refine pm_e_sim pm_a87_77 rfl ?_
          refine pm_e_top (y := iI 0) (by decide +kernel) ?_
          show pm_E _ _ _ 78 [(0, .ref (pl 0)), (1, .int (iI t)), (2, .int (iI w)), (3, .int (iI m)), (4, .ref (pl (60 + 2 * j))), (5, .int (iI i)), (6, .int (iI r))] [.int (iI 0), .ref (pl 0)] _ _ _ _
          refine pm_i_put pm_a87_78 rfl (cg_0 hW) rfl (Nat.le_of_ble_eq_true rfl) (Or.inl rfl) (cw_2 hW 0) ?_
          show pm_E _ _ _ 81 [(0, .ref (pl 0)), (1, .int (iI t)), (2, .int (iI w)), (3, .int (iI m)), (4, .ref (pl (60 + 2 * j))), (5, .int (iI i)), (6, .int (iI r))] [] _ _ _ _
          refine pm_e_sim pm_a87_81 rfl ?_
          show pm_E _ _ _ 83 [(0, .ref (pl 0)), (1, .int (iI t)), (2, .int (iI w)), (3, .int (iI m)), (4, .ref (pl (60 + 2 * j))), (5, .int (iI i)), (6, .int (iI r))] [.int (iI i)] _ _ _ _
          refine pm_e_ret pm_a87_83 rfl rfl rfl rfl rfl rfl rfl rfl ?_
          refine k _ a1 c1 i l1 (fun q q2 q3 => updS_o q2) z1 z2 z3 z4 z5 ?_
          rw [show (m - i).toNat = (m - (i + 1)).toNat + 1 by omega]
          exact ⟨r, l1, z6, Or.inl ⟨by omega, by omega, (show ((r = -3 ∧ (0 : Int) = 2) ∨ (r ≠ -3 ∧ (0 : Int) = 0)) from by omega), rfl, rfl⟩⟩
        · skip
          show pm_E _ _ _ 73 [(0, .ref (pl 0)), (1, .int (iI t)), (2, .int (iI w)), (3, .int (iI m)), (4, .ref (pl (60 + 2 * j))), (5, .int (iI i)), (6, .int (iI r))] [.ref (pl 0)] _ _ _ _
          refine pm_e_sim pm_a87_73 rfl ?_
          refine pm_e_top (y := iI 2) (by decide +kernel) ?_
          show pm_E _ _ _ 74 [(0, .ref (pl 0)), (1, .int (iI t)), (2, .int (iI w)), (3, .int (iI m)), (4, .ref (pl (60 + 2 * j))), (5, .int (iI i)), (6, .int (iI r))] [.int (iI 2), .ref (pl 0)] _ _ _ _
          refine pm_e_goto pm_a87_74 rfl ?_
          show pm_E _ _ _ 78 [(0, .ref (pl 0)), (1, .int (iI t)), (2, .int (iI w)), (3, .int (iI m)), (4, .ref (pl (60 + 2 * j))), (5, .int (iI i)), (6, .int (iI r))] [.int (iI 2), .ref (pl 0)] _ _ _ _
          refine pm_i_put pm_a87_78 rfl (cg_0 hW) rfl (Nat.le_of_ble_eq_true rfl) (Or.inl rfl) (cw_2 hW 2) ?_
          show pm_E _ _ _ 81 [(0, .ref (pl 0)), (1, .int (iI t)), (2, .int (iI w)), (3, .int (iI m)), (4, .ref (pl (60 + 2 * j))), (5, .int (iI i)), (6, .int (iI r))] [] _ _ _ _
          refine pm_e_sim pm_a87_81 rfl ?_
          show pm_E _ _ _ 83 [(0, .ref (pl 0)), (1, .int (iI t)), (2, .int (iI w)), (3, .int (iI m)), (4, .ref (pl (60 + 2 * j))), (5, .int (iI i)), (6, .int (iI r))] [.int (iI i)] _ _ _ _
          refine pm_e_ret pm_a87_83 rfl rfl rfl rfl rfl rfl rfl rfl ?_
          refine k _ a1 c1 i l1 (fun q q2 q3 => updS_o q2) z1 z2 z3 z4 z5 ?_
          rw [show (m - i).toNat = (m - (i + 1)).toNat + 1 by omega]
          exact ⟨r, l1, z6, Or.inl ⟨by omega, by omega, (show ((r = -3 ∧ (2 : Int) = 2) ∨ (r ≠ -3 ∧ (2 : Int) = 0)) from by omega), rfl, rfl⟩⟩
set_option maxHeartbeats 4000000 in
set_option maxRecDepth 100000 in
theorem C_steps {d n : Nat} {kd pl : Nat → Nat} {s : Nat → Int} {a : Nat → Int → Int} {c : Nat → cdt} {M : List va_E} {Q : Option Value → List va_E → Nat → Nat → Prop} {N : Int} {T : Int → List Int} {t w m : Int} (hW : wf n kd pl) (hS : cS n kd pl s c N T) (hT : ∀ t, 0 ≤ t → t < N → (T t).length ≤ 500 ∧ ∃ f, tL f 0 (T t)) (ht : in32 t) (hw : in32 w) (hm : in32 m) (hin : ∀ q, in32 (a 1 q)) (ho1 : okx (rm 1) (c 1)) (kb : (t < 0 ∨ N ≤ t ∨ w < 0 ∨ 3 < w ∨ m < 0 ∨ 200 < m) → Q (some (.int (iI (-1)))) (ch n kd pl s a c M) 0 0) (k : 0 ≤ t → t < N → 0 ≤ w → w ≤ 3 → 0 ≤ m → ∀ s' a' c' r l', (∀ i, i ≠ 2 → i ≠ 3 → s' i = s i) → shM a a' → (∀ i, i ≠ 1 → i ≠ 6 + t.toNat → c' i = c i) → okx (rm 1) (c' 1) → md (c' (6 + t.toNat)) (rm (6 + t.toNat)) l' → l'.length ≤ 500 → stx w m.toNat 0 (T t) r (s' 2) (s' 3) l' → Q (some (.int (iI r))) (ch n kd pl s' a' c' M) 0 0) : pm_E none (d + 7) pm_mm87 0 [(0, .ref (pl 0)), (1, .int (iI t)), (2, .int (iI w)), (3, .int (iI m))] [] (ch n kd pl s a c M) 0 0 Q := by
  obtain ⟨hS1, hS2, hS3, hS4⟩ := id hS
  obtain ⟨_, _⟩ := id ht
  obtain ⟨_, _⟩ := id hw
  obtain ⟨_, _⟩ := id hm
  refine pm_e_sim pm_a87_0 rfl ?_
  show pm_E _ _ _ 1 [(0, .ref (pl 0)), (1, .int (iI t)), (2, .int (iI w)), (3, .int (iI m))] [.ref (pl 0)] _ _ _ _
  refine pm_e_sim pm_a87_1 rfl ?_
  show pm_E _ _ _ 2 [(0, .ref (pl 0)), (1, .int (iI t)), (2, .int (iI w)), (3, .int (iI m))] [.int (iI t), .ref (pl 0)] _ _ _ _
  refine pm_i_callv (k := (pl 0)) (T2 := pm_mm45) pm_a87_2 rfl rfl rfl (cg_0 hW) ⟨Nat.le_of_ble_eq_true rfl, Nat.le_of_ble_eq_true rfl, rfl, by decide +kernel⟩ ?_
  show pm_E none _ _ 0 [(0, .ref (pl 0)), (1, .int (iI t))] [] _ _ _ _
  refine C_termAt hW hS ⟨by omega, by omega⟩ (fun t0j t1j j ej hj lj => ?_) (fun t9j => ?_)
  · skip
    have rbj := rm_b j
    have rmj : rm j = 500 := if_neg (by omega)
    obtain ⟨hlj, _⟩ := hT t (by omega) (by omega)
    obtain ⟨ovj, zj, gj⟩ : (c j).2.1 = 0 ∧ (c j).1 = (T t).length ∧ rg (c j).2.2 (T t).length 0 = T t := by rcases lj.2 with ⟨_, h1, h2, h3⟩ | ⟨h, _⟩; exact ⟨h1, h2, h3⟩; omega
    show pm_E _ _ _ 5 [(0, .ref (pl 0)), (1, .int (iI t)), (2, .int (iI w)), (3, .int (iI m))] [.ref (pl (60 + 2 * j))] _ _ _ _
    refine pm_e_sim pm_a87_5 rfl ?_
    show pm_E _ _ _ 7 [(0, .ref (pl 0)), (1, .int (iI t)), (2, .int (iI w)), (3, .int (iI m)), (4, .ref (pl (60 + 2 * j)))] [] _ _ _ _
    refine pm_e_sim pm_a87_7 rfl ?_
    show pm_E _ _ _ 9 [(0, .ref (pl 0)), (1, .int (iI t)), (2, .int (iI w)), (3, .int (iI m)), (4, .ref (pl (60 + 2 * j)))] [.ref (pl (60 + 2 * j))] _ _ _ _
    refine pm_e_jmp pm_a87_9 rfl rfl ?_
    show pm_E _ _ _ 12 [(0, .ref (pl 0)), (1, .int (iI t)), (2, .int (iI w)), (3, .int (iI m)), (4, .ref (pl (60 + 2 * j)))] [] _ _ _ _
    refine pm_e_sim pm_a87_12 rfl ?_
    show pm_E _ _ _ 13 [(0, .ref (pl 0)), (1, .int (iI t)), (2, .int (iI w)), (3, .int (iI m)), (4, .ref (pl (60 + 2 * j)))] [.int (iI w)] _ _ _ _
    refine pm_e_call (T2 := pm_mm64) pm_a87_13 rfl rfl rfl rfl rfl rfl rfl rfl rfl ?_
    show pm_E none _ _ 0 [(0, .int (iI w))] [] _ _ _ _
    refine C_isWay ⟨by omega, by omega⟩ (fun _ _ => ?_) (fun _ => ?_)
    · skip
      show pm_E _ _ _ 16 [(0, .ref (pl 0)), (1, .int (iI t)), (2, .int (iI w)), (3, .int (iI m)), (4, .ref (pl (60 + 2 * j)))] [.int (iI 1)] _ _ _ _
      refine pm_e_iff pm_a87_16 rfl (by decide +kernel) ?_
      show pm_E _ _ _ 19 [(0, .ref (pl 0)), (1, .int (iI t)), (2, .int (iI w)), (3, .int (iI m)), (4, .ref (pl (60 + 2 * j)))] [] _ _ _ _
      refine pm_e_sim pm_a87_19 rfl ?_
      show pm_E _ _ _ 20 [(0, .ref (pl 0)), (1, .int (iI t)), (2, .int (iI w)), (3, .int (iI m)), (4, .ref (pl (60 + 2 * j)))] [.int (iI m)] _ _ _ _
      refine pm_e_call (T2 := pm_mm88) pm_a87_20 rfl rfl rfl rfl rfl rfl rfl rfl rfl ?_
      show pm_E none _ _ 0 [(0, .int (iI m))] [] _ _ _ _
      refine C_isFuel ⟨by omega, by omega⟩ (fun _ _ => ?_) (fun _ => ?_)
      · skip
        show pm_E _ _ _ 23 [(0, .ref (pl 0)), (1, .int (iI t)), (2, .int (iI w)), (3, .int (iI m)), (4, .ref (pl (60 + 2 * j)))] [.int (iI 1)] _ _ _ _
        refine pm_e_ift pm_a87_23 rfl (by decide +kernel) ?_
        show pm_E _ _ _ 28 [(0, .ref (pl 0)), (1, .int (iI t)), (2, .int (iI w)), (3, .int (iI m)), (4, .ref (pl (60 + 2 * j)))] [] _ _ _ _
        refine pm_e_sim pm_a87_28 rfl ?_
        show pm_E _ _ _ 29 [(0, .ref (pl 0)), (1, .int (iI t)), (2, .int (iI w)), (3, .int (iI m)), (4, .ref (pl (60 + 2 * j)))] [.ref (pl 0)] _ _ _ _
        refine pm_e_sim pm_a87_29 rfl ?_
        refine pm_e_top (y := iI 0) (by decide +kernel) ?_
        show pm_E _ _ _ 30 [(0, .ref (pl 0)), (1, .int (iI t)), (2, .int (iI w)), (3, .int (iI m)), (4, .ref (pl (60 + 2 * j)))] [.int (iI 0), .ref (pl 0)] _ _ _ _
        refine pm_i_put pm_a87_30 rfl (cg_0 hW) rfl (Nat.le_of_ble_eq_true rfl) (Or.inl rfl) (cw_3 hW 0) ?_
        show pm_E _ _ _ 33 [(0, .ref (pl 0)), (1, .int (iI t)), (2, .int (iI w)), (3, .int (iI m)), (4, .ref (pl (60 + 2 * j)))] [] _ _ _ _
        refine pm_e_sim pm_a87_33 rfl ?_
        show pm_E _ _ _ 34 [(0, .ref (pl 0)), (1, .int (iI t)), (2, .int (iI w)), (3, .int (iI m)), (4, .ref (pl (60 + 2 * j)))] [.ref (pl 0)] _ _ _ _
        refine pm_e_sim pm_a87_34 rfl ?_
        refine pm_e_top (y := iI 1) (by decide +kernel) ?_
        show pm_E _ _ _ 35 [(0, .ref (pl 0)), (1, .int (iI t)), (2, .int (iI w)), (3, .int (iI m)), (4, .ref (pl (60 + 2 * j)))] [.int (iI 1), .ref (pl 0)] _ _ _ _
        refine pm_i_put pm_a87_35 rfl (cg_0 hW) rfl (Nat.le_of_ble_eq_true rfl) (Or.inl rfl) (cw_2 hW 1) ?_
        show pm_E _ _ _ 38 [(0, .ref (pl 0)), (1, .int (iI t)), (2, .int (iI w)), (3, .int (iI m)), (4, .ref (pl (60 + 2 * j)))] [] _ _ _ _
        refine pm_e_sim pm_a87_38 rfl ?_
        refine pm_e_top (y := iI 0) (by decide +kernel) ?_
        show pm_E _ _ _ 39 [(0, .ref (pl 0)), (1, .int (iI t)), (2, .int (iI w)), (3, .int (iI m)), (4, .ref (pl (60 + 2 * j)))] [.int (iI 0)] _ _ _ _
        refine pm_e_sim pm_a87_39 rfl ?_
        show pm_E _ _ _ 41 [(0, .ref (pl 0)), (1, .int (iI t)), (2, .int (iI w)), (3, .int (iI m)), (4, .ref (pl (60 + 2 * j))), (5, .int (iI 0))] [] _ _ _ _
        obtain ⟨_, htl⟩ := hT t (by omega) (by omega)
        refine C_steps_l hW hj (by omega) (by omega) ⟨by omega, by omega⟩ ⟨by omega, by omega⟩ (m.toNat + 1) 0 _ a c (T t) (by omega) (by omega) (by show (0 : Int) ≤ 0; omega) (by show (0 : Int) ≤ 1000; omega) rfl lj hlj htl ho1 hin (fun s2 a2 c2 r2 l2 y1 y2 y3 y4 y5 y6 y7 => ?_) (by omega)
        subst ej
        refine k (by omega) (by omega) (by omega) (by omega) (by omega) s2 a2 c2 r2 l2 (fun q q2 q3 => by rw [y1 q q2 q3, updS_o q2, updS_o q3]) y2 y3 y4 y5 y6 ?_
        have y8 : stx w (m - 0).toNat 0 (T t) (r2 - 0) (s2 2) (s2 3) l2 := y7
        rw [Int.sub_zero, Int.sub_zero] at y8
        exact y8
      · skip
        show pm_E _ _ _ 23 [(0, .ref (pl 0)), (1, .int (iI t)), (2, .int (iI w)), (3, .int (iI m)), (4, .ref (pl (60 + 2 * j)))] [.int (iI 0)] _ _ _ _
        refine pm_e_iff pm_a87_23 rfl (by decide +kernel) ?_
        show pm_E _ _ _ 26 [(0, .ref (pl 0)), (1, .int (iI t)), (2, .int (iI w)), (3, .int (iI m)), (4, .ref (pl (60 + 2 * j)))] [] _ _ _ _
        refine pm_e_sim pm_a87_26 rfl ?_
        refine pm_e_top (y := iI (-1)) (by decide +kernel) ?_
        show pm_E _ _ _ 27 [(0, .ref (pl 0)), (1, .int (iI t)), (2, .int (iI w)), (3, .int (iI m)), (4, .ref (pl (60 + 2 * j)))] [.int (iI (-1))] _ _ _ _
        refine pm_e_ret pm_a87_27 rfl rfl rfl rfl rfl rfl rfl rfl ?_
        exact kb (by omega)
    · skip
      show pm_E _ _ _ 16 [(0, .ref (pl 0)), (1, .int (iI t)), (2, .int (iI w)), (3, .int (iI m)), (4, .ref (pl (60 + 2 * j)))] [.int (iI 0)] _ _ _ _
      refine pm_e_ift pm_a87_16 rfl (by decide +kernel) ?_
      show pm_E _ _ _ 26 [(0, .ref (pl 0)), (1, .int (iI t)), (2, .int (iI w)), (3, .int (iI m)), (4, .ref (pl (60 + 2 * j)))] [] _ _ _ _
      refine pm_e_sim pm_a87_26 rfl ?_
      refine pm_e_top (y := iI (-1)) (by decide +kernel) ?_
      show pm_E _ _ _ 27 [(0, .ref (pl 0)), (1, .int (iI t)), (2, .int (iI w)), (3, .int (iI m)), (4, .ref (pl (60 + 2 * j)))] [.int (iI (-1))] _ _ _ _
      refine pm_e_ret pm_a87_27 rfl rfl rfl rfl rfl rfl rfl rfl ?_
      exact kb (by omega)
  · skip
    show pm_E _ _ _ 5 [(0, .ref (pl 0)), (1, .int (iI t)), (2, .int (iI w)), (3, .int (iI m))] [.null] _ _ _ _
    refine pm_e_sim pm_a87_5 rfl ?_
    show pm_E _ _ _ 7 [(0, .ref (pl 0)), (1, .int (iI t)), (2, .int (iI w)), (3, .int (iI m)), (4, .null)] [] _ _ _ _
    refine pm_e_sim pm_a87_7 rfl ?_
    show pm_E _ _ _ 9 [(0, .ref (pl 0)), (1, .int (iI t)), (2, .int (iI w)), (3, .int (iI m)), (4, .null)] [.null] _ _ _ _
    refine pm_e_jmp pm_a87_9 rfl rfl ?_
    show pm_E _ _ _ 26 [(0, .ref (pl 0)), (1, .int (iI t)), (2, .int (iI w)), (3, .int (iI m)), (4, .null)] [] _ _ _ _
    refine pm_e_sim pm_a87_26 rfl ?_
    refine pm_e_top (y := iI (-1)) (by decide +kernel) ?_
    show pm_E _ _ _ 27 [(0, .ref (pl 0)), (1, .int (iI t)), (2, .int (iI w)), (3, .int (iI m)), (4, .null)] [.int (iI (-1))] _ _ _ _
    refine pm_e_ret pm_a87_27 rfl rfl rfl rfl rfl rfl rfl rfl ?_
    exact kb (by omega)
set_option maxHeartbeats 4000000 in
set_option maxRecDepth 100000 in
theorem C_about {d n : Nat} {kd pl : Nat → Nat} {s : Nat → Int} {a : Nat → Int → Int} {c : Nat → cdt} {M : List va_E} {Q : Option Value → List va_E → Nat → Nat → Prop} {N : Int} {T : Int → List Int} {t w : Int} (hW : wf n kd pl) (hS : cS n kd pl s c N T) (hT : ∀ t, 0 ≤ t → t < N → (T t).length ≤ 500 ∧ ∃ f, tL f 0 (T t)) (ht : in32 t) (hw : in32 w) (hin : ∀ q, in32 (a 1 q)) (kb : True → Q (some (.int (iI (-1)))) (ch n kd pl s a c M) 0 0) (k : ∀ a' r, shM a a' → Q (some (.int (iI r))) (ch n kd pl s a' c M) 0 0) : pm_E none (d + 6) pm_mm137 0 [(0, .ref (pl 0)), (1, .int (iI t)), (2, .int (iI w))] [] (ch n kd pl s a c M) 0 0 Q := by
  obtain ⟨hS1, hS2, hS3, hS4⟩ := id hS
  obtain ⟨_, _⟩ := id ht
  obtain ⟨_, _⟩ := id hw
  refine pm_e_sim pm_a137_0 rfl ?_
  show pm_E _ _ _ 1 [(0, .ref (pl 0)), (1, .int (iI t)), (2, .int (iI w))] [.ref (pl 0)] _ _ _ _
  refine pm_e_sim pm_a137_1 rfl ?_
  show pm_E _ _ _ 2 [(0, .ref (pl 0)), (1, .int (iI t)), (2, .int (iI w))] [.int (iI t), .ref (pl 0)] _ _ _ _
  refine pm_i_callv (k := (pl 0)) (T2 := pm_mm45) pm_a137_2 rfl rfl rfl (cg_0 hW) ⟨Nat.le_of_ble_eq_true rfl, Nat.le_of_ble_eq_true rfl, rfl, by decide +kernel⟩ ?_
  show pm_E none _ _ 0 [(0, .ref (pl 0)), (1, .int (iI t))] [] _ _ _ _
  refine C_termAt hW hS ⟨by omega, by omega⟩ (fun t0j t1j j ej hj lj => ?_) (fun t9j => ?_)
  · skip
    have rbj := rm_b j
    have rmj : rm j = 500 := if_neg (by omega)
    obtain ⟨hlj, _⟩ := hT t (by omega) (by omega)
    obtain ⟨ovj, zj, gj⟩ : (c j).2.1 = 0 ∧ (c j).1 = (T t).length ∧ rg (c j).2.2 (T t).length 0 = T t := by rcases lj.2 with ⟨_, h1, h2, h3⟩ | ⟨h, _⟩; exact ⟨h1, h2, h3⟩; omega
    show pm_E _ _ _ 5 [(0, .ref (pl 0)), (1, .int (iI t)), (2, .int (iI w))] [.ref (pl (60 + 2 * j))] _ _ _ _
    refine pm_e_sim pm_a137_5 rfl ?_
    show pm_E _ _ _ 6 [(0, .ref (pl 0)), (1, .int (iI t)), (2, .int (iI w)), (3, .ref (pl (60 + 2 * j)))] [] _ _ _ _
    refine pm_e_sim pm_a137_6 rfl ?_
    show pm_E _ _ _ 7 [(0, .ref (pl 0)), (1, .int (iI t)), (2, .int (iI w)), (3, .ref (pl (60 + 2 * j)))] [.ref (pl (60 + 2 * j))] _ _ _ _
    refine pm_e_jmp pm_a137_7 rfl rfl ?_
    show pm_E _ _ _ 12 [(0, .ref (pl 0)), (1, .int (iI t)), (2, .int (iI w)), (3, .ref (pl (60 + 2 * j)))] [] _ _ _ _
    refine pm_e_sim pm_a137_12 rfl ?_
    show pm_E _ _ _ 13 [(0, .ref (pl 0)), (1, .int (iI t)), (2, .int (iI w)), (3, .ref (pl (60 + 2 * j)))] [.int (iI w)] _ _ _ _
    by_cases h_1 : w = 0
    · skip
      refine pm_e_top (y := iI 0) (congrArg iI h_1) ?_
      refine pm_e_tsi (t := 48) pm_a137_13 rfl rfl ?_
      show pm_E _ _ _ 48 [(0, .ref (pl 0)), (1, .int (iI t)), (2, .int (iI w)), (3, .ref (pl (60 + 2 * j)))] [] _ _ _ _
      refine pm_e_sim pm_a137_48 rfl ?_
      show pm_E _ _ _ 49 [(0, .ref (pl 0)), (1, .int (iI t)), (2, .int (iI w)), (3, .ref (pl (60 + 2 * j)))] [.ref (pl 0)] _ _ _ _
      refine pm_i_get pm_a137_49 rfl (cg_0 hW) rfl ?_
      show pm_E _ _ _ 52 [(0, .ref (pl 0)), (1, .int (iI t)), (2, .int (iI w)), (3, .ref (pl (60 + 2 * j)))] [.ref (pl 6)] _ _ _ _
      refine pm_e_sim pm_a137_52 rfl ?_
      show pm_E _ _ _ 53 [(0, .ref (pl 0)), (1, .int (iI t)), (2, .int (iI w)), (3, .ref (pl (60 + 2 * j)))] [.ref (pl (60 + 2 * j)), .ref (pl 6)] _ _ _ _
      refine pm_i_callv (k := (pl 6)) (T2 := pm_mm138) pm_a137_53 rfl rfl rfl (cg_6 hW) ⟨Nat.le_of_ble_eq_true rfl, Nat.le_of_ble_eq_true rfl, rfl, by decide +kernel⟩ ?_
      show pm_E none _ _ 0 [(0, .ref (pl 6)), (1, .ref (pl (60 + 2 * j)))] [] _ _ _ _
      obtain ⟨_, ft, htl⟩ := hT t (by omega) (by omega)
      have htm := tL_tm0 htl gj
      rw [← zj] at htm
      refine C_deepest hW hj lj.1 hin htm (fun a1 r hm _ _ => ?_)
      show pm_E _ _ _ 56 [(0, .ref (pl 0)), (1, .int (iI t)), (2, .int (iI w)), (3, .ref (pl (60 + 2 * j)))] [.int (iI r)] _ _ _ _
      refine pm_e_ret pm_a137_56 rfl rfl rfl rfl rfl rfl rfl rfl ?_
      exact k _ _ hm
    by_cases h_2 : w = 1
    · skip
      refine pm_e_top (y := iI 1) (congrArg iI h_2) ?_
      refine pm_e_tsi (t := 57) pm_a137_13 rfl rfl ?_
      show pm_E _ _ _ 57 [(0, .ref (pl 0)), (1, .int (iI t)), (2, .int (iI w)), (3, .ref (pl (60 + 2 * j)))] [] _ _ _ _
      refine pm_e_sim pm_a137_57 rfl ?_
      show pm_E _ _ _ 58 [(0, .ref (pl 0)), (1, .int (iI t)), (2, .int (iI w)), (3, .ref (pl (60 + 2 * j)))] [.ref (pl (60 + 2 * j))] _ _ _ _
      refine pm_e_sim pm_a137_58 rfl ?_
      refine pm_e_top (y := iI 1) (by decide +kernel) ?_
      show pm_E _ _ _ 59 [(0, .ref (pl 0)), (1, .int (iI t)), (2, .int (iI w)), (3, .ref (pl (60 + 2 * j)))] [.int (iI 1), .ref (pl (60 + 2 * j))] _ _ _ _
      refine pm_e_sim pm_a137_59 rfl ?_
      refine pm_e_top (y := iI 1) (by decide +kernel) ?_
      show pm_E _ _ _ 60 [(0, .ref (pl 0)), (1, .int (iI t)), (2, .int (iI w)), (3, .ref (pl (60 + 2 * j)))] [.int (iI 1), .int (iI 1), .ref (pl (60 + 2 * j))] _ _ _ _
      refine pm_i_callv (k := (pl (60 + 2 * j))) (T2 := pm_mm139) pm_a137_60 rfl rfl rfl (cg_o hj) ⟨Nat.le_of_ble_eq_true rfl, Nat.le_of_ble_eq_true rfl, rfl, by decide +kernel⟩ ?_
      show pm_E none _ _ 0 [(0, .ref (pl (60 + 2 * j))), (1, .int (iI 1)), (2, .int (iI 1))] [] _ _ _ _
      refine C_hasCell hW hj lj.1 (by decide) (by decide) (fun _ => ?_) (fun _ => ?_)
      · skip
        show pm_E _ _ _ 63 [(0, .ref (pl 0)), (1, .int (iI t)), (2, .int (iI w)), (3, .ref (pl (60 + 2 * j)))] [.int (iI 1)] _ _ _ _
        refine pm_e_iff pm_a137_63 rfl (by decide +kernel) ?_
        show pm_E _ _ _ 66 [(0, .ref (pl 0)), (1, .int (iI t)), (2, .int (iI w)), (3, .ref (pl (60 + 2 * j)))] [] _ _ _ _
        refine pm_e_sim pm_a137_66 rfl ?_
        refine pm_e_top (y := iI 1) (by decide +kernel) ?_
        show pm_E _ _ _ 67 [(0, .ref (pl 0)), (1, .int (iI t)), (2, .int (iI w)), (3, .ref (pl (60 + 2 * j)))] [.int (iI 1)] _ _ _ _
        refine pm_e_goto pm_a137_67 rfl ?_
        show pm_E _ _ _ 71 [(0, .ref (pl 0)), (1, .int (iI t)), (2, .int (iI w)), (3, .ref (pl (60 + 2 * j)))] [.int (iI 1)] _ _ _ _
        refine pm_e_ret pm_a137_71 rfl rfl rfl rfl rfl rfl rfl rfl ?_
        exact k _ _ (shM_r hin)
      · skip
        show pm_E _ _ _ 63 [(0, .ref (pl 0)), (1, .int (iI t)), (2, .int (iI w)), (3, .ref (pl (60 + 2 * j)))] [.int (iI 0)] _ _ _ _
        refine pm_e_ift pm_a137_63 rfl (by decide +kernel) ?_
        show pm_E _ _ _ 70 [(0, .ref (pl 0)), (1, .int (iI t)), (2, .int (iI w)), (3, .ref (pl (60 + 2 * j)))] [] _ _ _ _
        refine pm_e_sim pm_a137_70 rfl ?_
        refine pm_e_top (y := iI 0) (by decide +kernel) ?_
        show pm_E _ _ _ 71 [(0, .ref (pl 0)), (1, .int (iI t)), (2, .int (iI w)), (3, .ref (pl (60 + 2 * j)))] [.int (iI 0)] _ _ _ _
        refine pm_e_ret pm_a137_71 rfl rfl rfl rfl rfl rfl rfl rfl ?_
        exact k _ _ (shM_r hin)
    by_cases h_3 : w = 2
    · skip
      refine pm_e_top (y := iI 2) (congrArg iI h_3) ?_
      refine pm_e_tsi (t := 72) pm_a137_13 rfl rfl ?_
      show pm_E _ _ _ 72 [(0, .ref (pl 0)), (1, .int (iI t)), (2, .int (iI w)), (3, .ref (pl (60 + 2 * j)))] [] _ _ _ _
      refine pm_e_sim pm_a137_72 rfl ?_
      show pm_E _ _ _ 73 [(0, .ref (pl 0)), (1, .int (iI t)), (2, .int (iI w)), (3, .ref (pl (60 + 2 * j)))] [.ref (pl (60 + 2 * j))] _ _ _ _
      refine pm_e_sim pm_a137_73 rfl ?_
      refine pm_e_top (y := iI 10) (by decide +kernel) ?_
      show pm_E _ _ _ 75 [(0, .ref (pl 0)), (1, .int (iI t)), (2, .int (iI w)), (3, .ref (pl (60 + 2 * j)))] [.int (iI 10), .ref (pl (60 + 2 * j))] _ _ _ _
      refine pm_e_sim pm_a137_75 rfl ?_
      refine pm_e_top (y := iI 510) (by decide +kernel) ?_
      show pm_E _ _ _ 78 [(0, .ref (pl 0)), (1, .int (iI t)), (2, .int (iI w)), (3, .ref (pl (60 + 2 * j)))] [.int (iI 510), .int (iI 10), .ref (pl (60 + 2 * j))] _ _ _ _
      refine pm_i_callv (k := (pl (60 + 2 * j))) (T2 := pm_mm139) pm_a137_78 rfl rfl rfl (cg_o hj) ⟨Nat.le_of_ble_eq_true rfl, Nat.le_of_ble_eq_true rfl, rfl, by decide +kernel⟩ ?_
      show pm_E none _ _ 0 [(0, .ref (pl (60 + 2 * j))), (1, .int (iI 10)), (2, .int (iI 510))] [] _ _ _ _
      refine C_hasCell hW hj lj.1 (by decide) (by decide) (fun _ => ?_) (fun _ => ?_)
      · skip
        show pm_E _ _ _ 81 [(0, .ref (pl 0)), (1, .int (iI t)), (2, .int (iI w)), (3, .ref (pl (60 + 2 * j)))] [.int (iI 1)] _ _ _ _
        refine pm_e_iff pm_a137_81 rfl (by decide +kernel) ?_
        show pm_E _ _ _ 84 [(0, .ref (pl 0)), (1, .int (iI t)), (2, .int (iI w)), (3, .ref (pl (60 + 2 * j)))] [] _ _ _ _
        refine pm_e_sim pm_a137_84 rfl ?_
        refine pm_e_top (y := iI 1) (by decide +kernel) ?_
        show pm_E _ _ _ 85 [(0, .ref (pl 0)), (1, .int (iI t)), (2, .int (iI w)), (3, .ref (pl (60 + 2 * j)))] [.int (iI 1)] _ _ _ _
        refine pm_e_goto pm_a137_85 rfl ?_
        show pm_E _ _ _ 89 [(0, .ref (pl 0)), (1, .int (iI t)), (2, .int (iI w)), (3, .ref (pl (60 + 2 * j)))] [.int (iI 1)] _ _ _ _
        refine pm_e_ret pm_a137_89 rfl rfl rfl rfl rfl rfl rfl rfl ?_
        exact k _ _ (shM_r hin)
      · skip
        show pm_E _ _ _ 81 [(0, .ref (pl 0)), (1, .int (iI t)), (2, .int (iI w)), (3, .ref (pl (60 + 2 * j)))] [.int (iI 0)] _ _ _ _
        refine pm_e_ift pm_a137_81 rfl (by decide +kernel) ?_
        show pm_E _ _ _ 88 [(0, .ref (pl 0)), (1, .int (iI t)), (2, .int (iI w)), (3, .ref (pl (60 + 2 * j)))] [] _ _ _ _
        refine pm_e_sim pm_a137_88 rfl ?_
        refine pm_e_top (y := iI 0) (by decide +kernel) ?_
        show pm_E _ _ _ 89 [(0, .ref (pl 0)), (1, .int (iI t)), (2, .int (iI w)), (3, .ref (pl (60 + 2 * j)))] [.int (iI 0)] _ _ _ _
        refine pm_e_ret pm_a137_89 rfl rfl rfl rfl rfl rfl rfl rfl ?_
        exact k _ _ (shM_r hin)
    by_cases h_4 : w = 3
    · skip
      refine pm_e_top (y := iI 3) (congrArg iI h_4) ?_
      refine pm_e_tsi (t := 90) pm_a137_13 rfl rfl ?_
      show pm_E _ _ _ 90 [(0, .ref (pl 0)), (1, .int (iI t)), (2, .int (iI w)), (3, .ref (pl (60 + 2 * j)))] [] _ _ _ _
      refine pm_e_sim pm_a137_90 rfl ?_
      show pm_E _ _ _ 91 [(0, .ref (pl 0)), (1, .int (iI t)), (2, .int (iI w)), (3, .ref (pl (60 + 2 * j)))] [.ref (pl (60 + 2 * j))] _ _ _ _
      refine pm_e_sim pm_a137_91 rfl ?_
      refine pm_e_top (y := iI 2) (by decide +kernel) ?_
      show pm_E _ _ _ 92 [(0, .ref (pl 0)), (1, .int (iI t)), (2, .int (iI w)), (3, .ref (pl (60 + 2 * j)))] [.int (iI 2), .ref (pl (60 + 2 * j))] _ _ _ _
      refine pm_e_sim pm_a137_92 rfl ?_
      refine pm_e_top (y := iI 6) (by decide +kernel) ?_
      show pm_E _ _ _ 94 [(0, .ref (pl 0)), (1, .int (iI t)), (2, .int (iI w)), (3, .ref (pl (60 + 2 * j)))] [.int (iI 6), .int (iI 2), .ref (pl (60 + 2 * j))] _ _ _ _
      refine pm_i_callv (k := (pl (60 + 2 * j))) (T2 := pm_mm139) pm_a137_94 rfl rfl rfl (cg_o hj) ⟨Nat.le_of_ble_eq_true rfl, Nat.le_of_ble_eq_true rfl, rfl, by decide +kernel⟩ ?_
      show pm_E none _ _ 0 [(0, .ref (pl (60 + 2 * j))), (1, .int (iI 2)), (2, .int (iI 6))] [] _ _ _ _
      refine C_hasCell hW hj lj.1 (by decide) (by decide) (fun _ => ?_) (fun _ => ?_)
      · skip
        show pm_E _ _ _ 97 [(0, .ref (pl 0)), (1, .int (iI t)), (2, .int (iI w)), (3, .ref (pl (60 + 2 * j)))] [.int (iI 1)] _ _ _ _
        refine pm_e_iff pm_a137_97 rfl (by decide +kernel) ?_
        show pm_E _ _ _ 100 [(0, .ref (pl 0)), (1, .int (iI t)), (2, .int (iI w)), (3, .ref (pl (60 + 2 * j)))] [] _ _ _ _
        refine pm_e_sim pm_a137_100 rfl ?_
        refine pm_e_top (y := iI 1) (by decide +kernel) ?_
        show pm_E _ _ _ 101 [(0, .ref (pl 0)), (1, .int (iI t)), (2, .int (iI w)), (3, .ref (pl (60 + 2 * j)))] [.int (iI 1)] _ _ _ _
        refine pm_e_goto pm_a137_101 rfl ?_
        show pm_E _ _ _ 105 [(0, .ref (pl 0)), (1, .int (iI t)), (2, .int (iI w)), (3, .ref (pl (60 + 2 * j)))] [.int (iI 1)] _ _ _ _
        refine pm_e_ret pm_a137_105 rfl rfl rfl rfl rfl rfl rfl rfl ?_
        exact k _ _ (shM_r hin)
      · skip
        show pm_E _ _ _ 97 [(0, .ref (pl 0)), (1, .int (iI t)), (2, .int (iI w)), (3, .ref (pl (60 + 2 * j)))] [.int (iI 0)] _ _ _ _
        refine pm_e_ift pm_a137_97 rfl (by decide +kernel) ?_
        show pm_E _ _ _ 104 [(0, .ref (pl 0)), (1, .int (iI t)), (2, .int (iI w)), (3, .ref (pl (60 + 2 * j)))] [] _ _ _ _
        refine pm_e_sim pm_a137_104 rfl ?_
        refine pm_e_top (y := iI 0) (by decide +kernel) ?_
        show pm_E _ _ _ 105 [(0, .ref (pl 0)), (1, .int (iI t)), (2, .int (iI w)), (3, .ref (pl (60 + 2 * j)))] [.int (iI 0)] _ _ _ _
        refine pm_e_ret pm_a137_105 rfl rfl rfl rfl rfl rfl rfl rfl ?_
        exact k _ _ (shM_r hin)
    by_cases h_5 : w = 4
    · skip
      refine pm_e_top (y := iI 4) (congrArg iI h_5) ?_
      refine pm_e_tsi (t := 106) pm_a137_13 rfl rfl ?_
      show pm_E _ _ _ 106 [(0, .ref (pl 0)), (1, .int (iI t)), (2, .int (iI w)), (3, .ref (pl (60 + 2 * j)))] [] _ _ _ _
      refine pm_e_sim pm_a137_106 rfl ?_
      show pm_E _ _ _ 107 [(0, .ref (pl 0)), (1, .int (iI t)), (2, .int (iI w)), (3, .ref (pl (60 + 2 * j)))] [.ref (pl 0)] _ _ _ _
      refine pm_i_get pm_a137_107 rfl (cg_0 hW) rfl ?_
      show pm_E _ _ _ 110 [(0, .ref (pl 0)), (1, .int (iI t)), (2, .int (iI w)), (3, .ref (pl (60 + 2 * j)))] [.ref (pl 15)] _ _ _ _
      refine pm_e_sim pm_a137_110 rfl ?_
      show pm_E _ _ _ 111 [(0, .ref (pl 0)), (1, .int (iI t)), (2, .int (iI w)), (3, .ref (pl (60 + 2 * j)))] [.ref (pl (60 + 2 * j)), .ref (pl 15)] _ _ _ _
      refine pm_e_sim pm_a137_111 rfl ?_
      refine pm_e_top (y := iI 0) (by decide +kernel) ?_
      show pm_E _ _ _ 112 [(0, .ref (pl 0)), (1, .int (iI t)), (2, .int (iI w)), (3, .ref (pl (60 + 2 * j)))] [.int (iI 0), .ref (pl (60 + 2 * j)), .ref (pl 15)] _ _ _ _
      refine pm_i_callv (k := (pl 15)) (T2 := pm_mm66) pm_a137_112 rfl rfl rfl (cg_15 hW) ⟨Nat.le_of_ble_eq_true rfl, Nat.le_of_ble_eq_true rfl, rfl, by decide +kernel⟩ ?_
      show pm_E none _ _ 0 [(0, .ref (pl 15)), (1, .ref (pl (60 + 2 * j))), (2, .int (iI 0))] [] _ _ _ _
      obtain ⟨_, ft, htl⟩ := hT t (by omega) (by omega)
      have htm := tL_tm0 htl gj
      rw [← zj] at htm
      refine C_place hW hj rfl lj.1 hin htm ⟨by omega, by omega⟩ (fun a1 r hm hn => ?_)
      have hrb : -4 ≤ r ∧ r < (c j).1 := by rcases hn with ⟨z, _⟩ | ⟨z, y, _⟩ <;> omega
      obtain ⟨_, p2, _, _⟩ := id lj.1
      show pm_E _ _ _ 115 [(0, .ref (pl 0)), (1, .int (iI t)), (2, .int (iI w)), (3, .ref (pl (60 + 2 * j)))] [.int (iI r)] _ _ _ _
      refine pm_e_sim pm_a137_115 rfl ?_
      refine pm_e_top (y := iI (-4)) (by decide +kernel) ?_
      show pm_E _ _ _ 117 [(0, .ref (pl 0)), (1, .int (iI t)), (2, .int (iI w)), (3, .ref (pl (60 + 2 * j)))] [.int (iI (-4)), .int (iI r)] _ _ _ _
      refine pm_c_ne (t := 124) pm_a137_117 rfl ⟨by omega, by omega⟩ ⟨by omega, by omega⟩ (fun h_6 => ?_) (fun h_6 => ?_)
      · skip
        show pm_E _ _ _ 124 [(0, .ref (pl 0)), (1, .int (iI t)), (2, .int (iI w)), (3, .ref (pl (60 + 2 * j)))] [] _ _ _ _
        refine pm_e_sim pm_a137_124 rfl ?_
        refine pm_e_top (y := iI 0) (by decide +kernel) ?_
        show pm_E _ _ _ 125 [(0, .ref (pl 0)), (1, .int (iI t)), (2, .int (iI w)), (3, .ref (pl (60 + 2 * j)))] [.int (iI 0)] _ _ _ _
        refine pm_e_ret pm_a137_125 rfl rfl rfl rfl rfl rfl rfl rfl ?_
        exact k _ _ hm
      · skip
        show pm_E _ _ _ 120 [(0, .ref (pl 0)), (1, .int (iI t)), (2, .int (iI w)), (3, .ref (pl (60 + 2 * j)))] [] _ _ _ _
        refine pm_e_sim pm_a137_120 rfl ?_
        refine pm_e_top (y := iI 1) (by decide +kernel) ?_
        show pm_E _ _ _ 121 [(0, .ref (pl 0)), (1, .int (iI t)), (2, .int (iI w)), (3, .ref (pl (60 + 2 * j)))] [.int (iI 1)] _ _ _ _
        refine pm_e_goto pm_a137_121 rfl ?_
        show pm_E _ _ _ 125 [(0, .ref (pl 0)), (1, .int (iI t)), (2, .int (iI w)), (3, .ref (pl (60 + 2 * j)))] [.int (iI 1)] _ _ _ _
        refine pm_e_ret pm_a137_125 rfl rfl rfl rfl rfl rfl rfl rfl ?_
        exact k _ _ hm
    refine pm_e_tso (t := 126) pm_a137_13 (by rw [iI_t ⟨by omega, by omega⟩]; omega) rfl ?_
    show pm_E _ _ _ 126 [(0, .ref (pl 0)), (1, .int (iI t)), (2, .int (iI w)), (3, .ref (pl (60 + 2 * j)))] [] _ _ _ _
    refine pm_e_sim pm_a137_126 rfl ?_
    refine pm_e_top (y := iI (-1)) (by decide +kernel) ?_
    show pm_E _ _ _ 127 [(0, .ref (pl 0)), (1, .int (iI t)), (2, .int (iI w)), (3, .ref (pl (60 + 2 * j)))] [.int (iI (-1))] _ _ _ _
    refine pm_e_ret pm_a137_127 rfl rfl rfl rfl rfl rfl rfl rfl ?_
    exact kb trivial
  · skip
    show pm_E _ _ _ 5 [(0, .ref (pl 0)), (1, .int (iI t)), (2, .int (iI w))] [.null] _ _ _ _
    refine pm_e_sim pm_a137_5 rfl ?_
    show pm_E _ _ _ 6 [(0, .ref (pl 0)), (1, .int (iI t)), (2, .int (iI w)), (3, .null)] [] _ _ _ _
    refine pm_e_sim pm_a137_6 rfl ?_
    show pm_E _ _ _ 7 [(0, .ref (pl 0)), (1, .int (iI t)), (2, .int (iI w)), (3, .null)] [.null] _ _ _ _
    refine pm_e_jmp pm_a137_7 rfl rfl ?_
    show pm_E _ _ _ 10 [(0, .ref (pl 0)), (1, .int (iI t)), (2, .int (iI w)), (3, .null)] [] _ _ _ _
    refine pm_e_sim pm_a137_10 rfl ?_
    refine pm_e_top (y := iI (-1)) (by decide +kernel) ?_
    show pm_E _ _ _ 11 [(0, .ref (pl 0)), (1, .int (iI t)), (2, .int (iI w)), (3, .null)] [.int (iI (-1))] _ _ _ _
    refine pm_e_ret pm_a137_11 rfl rfl rfl rfl rfl rfl rfl rfl ?_
    exact kb trivial
set_option maxHeartbeats 4000000 in
set_option maxRecDepth 100000 in
theorem C_allNodes_l {d n : Nat} {kd pl : Nat → Nat} {s : Nat → Int} {a : Nat → Int → Int} {c : Nat → cdt} {M : List va_E} {Q : Option Value → List va_E → Nat → Nat → Prop} {N : Int} {T : Int → List Int} (hW : wf n kd pl) (hS : cS n kd pl s c N T) (hT : ∀ t, 0 ≤ t → t < N → (T t).length ≤ 500 ∧ ∃ f, tL f 0 (T t)) {R : Int} (k : Q (some (.int (iI R))) (ch n kd pl s a c M) 0 0) : ∀ (f : Nat) (m i : Int), 0 ≤ i → i ≤ N → 0 ≤ m → m ≤ 1000 * i → suI (fun t => ((T t).length : Int)) (N - i).toNat i m = R → N - i < (f : Int) → pm_E none (d + 1) pm_mm142 4 [(0, .ref (pl 0)), (1, .int (iI m)), (2, .int (iI i))] [] (ch n kd pl s a c M) 0 0 Q := by
  intro f
  induction f with
  | zero =>
    intro m i hi0 hi1 hm0 hm1 hR hf
    exfalso; omega
  | succ f ih =>
    intro m i hi0 hi1 hm0 hm1 hR hf
    obtain ⟨hS1, hS2, hS3, hS4⟩ := id hS
    refine pm_e_sim pm_a142_4 rfl ?_
    show pm_E _ _ _ 5 [(0, .ref (pl 0)), (1, .int (iI m)), (2, .int (iI i))] [.int (iI i)] _ _ _ _
    refine pm_e_sim pm_a142_5 rfl ?_
    show pm_E _ _ _ 6 [(0, .ref (pl 0)), (1, .int (iI m)), (2, .int (iI i))] [.ref (pl 0), .int (iI i)] _ _ _ _
    refine pm_i_get pm_a142_6 rfl (cg_0 hW) rfl ?_
    show pm_E _ _ _ 9 [(0, .ref (pl 0)), (1, .int (iI m)), (2, .int (iI i))] [.int (iI (s 0)), .int (iI i)] _ _ _ _
    refine pm_c_ge (t := 39) pm_a142_9 rfl ⟨by omega, by omega⟩ ⟨by omega, by omega⟩ (fun h_1 => ?_) (fun h_1 => ?_)
    · skip
      show pm_E _ _ _ 39 [(0, .ref (pl 0)), (1, .int (iI m)), (2, .int (iI i))] [] _ _ _ _
      refine pm_e_sim pm_a142_39 rfl ?_
      show pm_E _ _ _ 40 [(0, .ref (pl 0)), (1, .int (iI m)), (2, .int (iI i))] [.int (iI m)] _ _ _ _
      refine pm_e_ret pm_a142_40 rfl rfl rfl rfl rfl rfl rfl rfl ?_
      rw [show (N - i).toNat = 0 by omega] at hR
      rw [show m = R from hR]
      exact k
    · skip
      show pm_E _ _ _ 12 [(0, .ref (pl 0)), (1, .int (iI m)), (2, .int (iI i))] [] _ _ _ _
      refine pm_e_sim pm_a142_12 rfl ?_
      show pm_E _ _ _ 13 [(0, .ref (pl 0)), (1, .int (iI m)), (2, .int (iI i))] [.ref (pl 0)] _ _ _ _
      refine pm_e_sim pm_a142_13 rfl ?_
      show pm_E _ _ _ 14 [(0, .ref (pl 0)), (1, .int (iI m)), (2, .int (iI i))] [.int (iI i), .ref (pl 0)] _ _ _ _
      refine pm_i_callv (k := (pl 0)) (T2 := pm_mm45) pm_a142_14 rfl rfl rfl (cg_0 hW) ⟨Nat.le_of_ble_eq_true rfl, Nat.le_of_ble_eq_true rfl, rfl, by decide +kernel⟩ ?_
      show pm_E none _ _ 0 [(0, .ref (pl 0)), (1, .int (iI i))] [] _ _ _ _
      refine C_termAt hW hS ⟨by omega, by omega⟩ (fun t0j t1j j ej hj lj => ?_) (fun t9j => ?_)
      · skip
        have rbj := rm_b j
        have rmj : rm j = 500 := if_neg (by omega)
        obtain ⟨hlj, _⟩ := hT i (by omega) (by omega)
        obtain ⟨ovj, zj, gj⟩ : (c j).2.1 = 0 ∧ (c j).1 = (T i).length ∧ rg (c j).2.2 (T i).length 0 = T i := by rcases lj.2 with ⟨_, h1, h2, h3⟩ | ⟨h, _⟩; exact ⟨h1, h2, h3⟩; omega
        show pm_E _ _ _ 17 [(0, .ref (pl 0)), (1, .int (iI m)), (2, .int (iI i))] [.ref (pl (60 + 2 * j))] _ _ _ _
        refine pm_e_sim pm_a142_17 rfl ?_
        show pm_E _ _ _ 18 [(0, .ref (pl 0)), (1, .int (iI m)), (2, .int (iI i)), (3, .ref (pl (60 + 2 * j)))] [] _ _ _ _
        refine pm_e_sim pm_a142_18 rfl ?_
        show pm_E _ _ _ 19 [(0, .ref (pl 0)), (1, .int (iI m)), (2, .int (iI i)), (3, .ref (pl (60 + 2 * j)))] [.int (iI m)] _ _ _ _
        refine pm_e_sim pm_a142_19 rfl ?_
        show pm_E _ _ _ 20 [(0, .ref (pl 0)), (1, .int (iI m)), (2, .int (iI i)), (3, .ref (pl (60 + 2 * j)))] [.ref (pl (60 + 2 * j)), .int (iI m)] _ _ _ _
        refine pm_e_jmp pm_a142_20 rfl rfl ?_
        show pm_E _ _ _ 27 [(0, .ref (pl 0)), (1, .int (iI m)), (2, .int (iI i)), (3, .ref (pl (60 + 2 * j)))] [.int (iI m)] _ _ _ _
        refine pm_e_sim pm_a142_27 rfl ?_
        show pm_E _ _ _ 28 [(0, .ref (pl 0)), (1, .int (iI m)), (2, .int (iI i)), (3, .ref (pl (60 + 2 * j)))] [.ref (pl (60 + 2 * j)), .int (iI m)] _ _ _ _
        refine pm_i_get pm_a142_28 rfl (cg_o hj) rfl ?_
        show pm_E _ _ _ 31 [(0, .ref (pl 0)), (1, .int (iI m)), (2, .int (iI i)), (3, .ref (pl (60 + 2 * j)))] [.int (iI ((c j).1)), .int (iI m)] _ _ _ _
        refine pm_e_sim pm_a142_31 rfl ?_
        refine pm_e_top (y := iI (m + ((c j).1))) (iI_add _ _) ?_
        show pm_E _ _ _ 32 [(0, .ref (pl 0)), (1, .int (iI m)), (2, .int (iI i)), (3, .ref (pl (60 + 2 * j)))] [.int (iI (m + ((c j).1)))] _ _ _ _
        refine pm_e_sim pm_a142_32 rfl ?_
        show pm_E _ _ _ 33 [(0, .ref (pl 0)), (1, .int (iI (m + ((c j).1)))), (2, .int (iI i)), (3, .ref (pl (60 + 2 * j)))] [] _ _ _ _
        refine pm_e_inc (y := iI (i + 1)) pm_a142_33 rfl (iI_add _ _) (by decide +kernel) rfl ?_
        show pm_E _ _ _ 36 [(0, .ref (pl 0)), (1, .int (iI (m + ((c j).1)))), (2, .int (iI (i + 1))), (3, .ref (pl (60 + 2 * j)))] [] _ _ _ _
        refine pm_e_goto pm_a142_36 rfl ?_
        show pm_E _ _ _ 4 [(0, .ref (pl 0)), (1, .int (iI (m + ((c j).1)))), (2, .int (iI (i + 1))), (3, .ref (pl (60 + 2 * j)))] [] _ _ _ _
        show pm_E _ _ _ 4 ([(0, .ref (pl 0)), (1, .int (iI (m + ((c j).1)))), (2, .int (iI (i + 1)))] ++ [(3, .ref (pl (60 + 2 * j)))]) [] _ _ _ _
        refine pm_e_more [(3, .ref (pl (60 + 2 * j)))] (show ([0, 1, 2, 3] : List Nat).Nodup from by decide) ?_
        refine ih _ _ (by omega) (by omega) (by omega) (by omega) ?_ (by omega)
        rw [show (N - i).toNat = (N - (i + 1)).toNat + 1 by omega] at hR
        rw [zj]
        exact hR
      · skip
        show pm_E _ _ _ 17 [(0, .ref (pl 0)), (1, .int (iI m)), (2, .int (iI i))] [.null] _ _ _ _
        refine pm_e_sim pm_a142_17 rfl ?_
        show pm_E _ _ _ 18 [(0, .ref (pl 0)), (1, .int (iI m)), (2, .int (iI i)), (3, .null)] [] _ _ _ _
        refine pm_e_sim pm_a142_18 rfl ?_
        show pm_E _ _ _ 19 [(0, .ref (pl 0)), (1, .int (iI m)), (2, .int (iI i)), (3, .null)] [.int (iI m)] _ _ _ _
        refine pm_e_sim pm_a142_19 rfl ?_
        show pm_E _ _ _ 20 [(0, .ref (pl 0)), (1, .int (iI m)), (2, .int (iI i)), (3, .null)] [.null, .int (iI m)] _ _ _ _
        refine pm_e_jmp pm_a142_20 rfl rfl ?_
        show pm_E _ _ _ 23 [(0, .ref (pl 0)), (1, .int (iI m)), (2, .int (iI i)), (3, .null)] [.int (iI m)] _ _ _ _
        refine pm_e_sim pm_a142_23 rfl ?_
        refine pm_e_top (y := iI 0) (by decide +kernel) ?_
        show pm_E _ _ _ 24 [(0, .ref (pl 0)), (1, .int (iI m)), (2, .int (iI i)), (3, .null)] [.int (iI 0), .int (iI m)] _ _ _ _
        refine pm_e_goto pm_a142_24 rfl ?_
        show pm_E _ _ _ 31 [(0, .ref (pl 0)), (1, .int (iI m)), (2, .int (iI i)), (3, .null)] [.int (iI 0), .int (iI m)] _ _ _ _
        refine pm_e_sim pm_a142_31 rfl ?_
        refine pm_e_top (y := iI (m + 0)) (iI_add _ _) ?_
        show pm_E _ _ _ 32 [(0, .ref (pl 0)), (1, .int (iI m)), (2, .int (iI i)), (3, .null)] [.int (iI (m + 0))] _ _ _ _
        refine pm_e_sim pm_a142_32 rfl ?_
        show pm_E _ _ _ 33 [(0, .ref (pl 0)), (1, .int (iI (m + 0))), (2, .int (iI i)), (3, .null)] [] _ _ _ _
        refine pm_e_inc (y := iI (i + 1)) pm_a142_33 rfl (iI_add _ _) (by decide +kernel) rfl ?_
        show pm_E _ _ _ 36 [(0, .ref (pl 0)), (1, .int (iI (m + 0))), (2, .int (iI (i + 1))), (3, .null)] [] _ _ _ _
        refine pm_e_goto pm_a142_36 rfl ?_
        show pm_E _ _ _ 4 [(0, .ref (pl 0)), (1, .int (iI (m + 0))), (2, .int (iI (i + 1))), (3, .null)] [] _ _ _ _
        show pm_E _ _ _ 4 ([(0, .ref (pl 0)), (1, .int (iI (m + 0))), (2, .int (iI (i + 1)))] ++ [(3, .null)]) [] _ _ _ _
        refine pm_e_more [(3, .null)] (show ([0, 1, 2, 3] : List Nat).Nodup from by decide) ?_
        exfalso; omega
set_option maxHeartbeats 4000000 in
set_option maxRecDepth 100000 in
theorem C_allNodes {d n : Nat} {kd pl : Nat → Nat} {s : Nat → Int} {a : Nat → Int → Int} {c : Nat → cdt} {M : List va_E} {Q : Option Value → List va_E → Nat → Nat → Prop} {N : Int} {T : Int → List Int} (hW : wf n kd pl) (hS : cS n kd pl s c N T) (hT : ∀ t, 0 ≤ t → t < N → (T t).length ≤ 500 ∧ ∃ f, tL f 0 (T t)) (k : ∀ r, r = suI (fun t => ((T t).length : Int)) N.toNat 0 0 → Q (some (.int (iI r))) (ch n kd pl s a c M) 0 0) : pm_E none (d + 1) pm_mm142 0 [(0, .ref (pl 0))] [] (ch n kd pl s a c M) 0 0 Q := by
  refine pm_e_sim pm_a142_0 rfl ?_
  refine pm_e_top (y := iI 0) (by decide +kernel) ?_
  show pm_E _ _ _ 1 [(0, .ref (pl 0))] [.int (iI 0)] _ _ _ _
  refine pm_e_sim pm_a142_1 rfl ?_
  show pm_E _ _ _ 2 [(0, .ref (pl 0)), (1, .int (iI 0))] [] _ _ _ _
  refine pm_e_sim pm_a142_2 rfl ?_
  refine pm_e_top (y := iI 0) (by decide +kernel) ?_
  show pm_E _ _ _ 3 [(0, .ref (pl 0)), (1, .int (iI 0))] [.int (iI 0)] _ _ _ _
  refine pm_e_sim pm_a142_3 rfl ?_
  show pm_E _ _ _ 4 [(0, .ref (pl 0)), (1, .int (iI 0)), (2, .int (iI 0))] [] _ _ _ _
  obtain ⟨hS1, hS2, hS3, hS4⟩ := id hS
  exact C_allNodes_l hW hS hT (k _ rfl) (N.toNat + 1) 0 0 (by omega) (by omega) (by omega) (by omega) (by rw [Int.sub_zero]) (by omega)
set_option maxHeartbeats 4000000 in
set_option maxRecDepth 100000 in
theorem C_count {d n : Nat} {kd pl : Nat → Nat} {s : Nat → Int} {a : Nat → Int → Int} {c : Nat → cdt} {M : List va_E} {Q : Option Value → List va_E → Nat → Nat → Prop} {N : Int} {T : Int → List Int} {x : Int} (hW : wf n kd pl) (hS : cS n kd pl s c N T) (hT : ∀ t, 0 ≤ t → t < N → (T t).length ≤ 500 ∧ ∃ f, tL f 0 (T t)) (hx : in32 x) (k : ∀ r, (x = 0 → r = s 0) → (x = 1 → r = s 4) → (x = 2 → r = suI (fun t => ((T t).length : Int)) N.toNat 0 0) → (x ≠ 0 → x ≠ 1 → x ≠ 2 → r = -1) → Q (some (.int (iI r))) (ch n kd pl s a c M) 0 0) : pm_E none (d + 2) pm_mm141 0 [(0, .ref (pl 0)), (1, .int (iI x))] [] (ch n kd pl s a c M) 0 0 Q := by
  obtain ⟨_, _⟩ := id hx
  refine pm_e_sim pm_a141_0 rfl ?_
  show pm_E _ _ _ 1 [(0, .ref (pl 0)), (1, .int (iI x))] [.int (iI x)] _ _ _ _
  by_cases h_1 : x = 0
  · skip
    refine pm_e_top (y := iI 0) (congrArg iI h_1) ?_
    refine pm_e_tsi (t := 28) pm_a141_1 rfl rfl ?_
    show pm_E _ _ _ 28 [(0, .ref (pl 0)), (1, .int (iI x))] [] _ _ _ _
    refine pm_e_sim pm_a141_28 rfl ?_
    show pm_E _ _ _ 29 [(0, .ref (pl 0)), (1, .int (iI x))] [.ref (pl 0)] _ _ _ _
    refine pm_i_get pm_a141_29 rfl (cg_0 hW) rfl ?_
    show pm_E _ _ _ 32 [(0, .ref (pl 0)), (1, .int (iI x))] [.int (iI (s 0))] _ _ _ _
    refine pm_e_ret pm_a141_32 rfl rfl rfl rfl rfl rfl rfl rfl ?_
    exact k _ (by omega) (by omega) (by omega) (by omega)
  by_cases h_2 : x = 1
  · skip
    refine pm_e_top (y := iI 1) (congrArg iI h_2) ?_
    refine pm_e_tsi (t := 33) pm_a141_1 rfl rfl ?_
    show pm_E _ _ _ 33 [(0, .ref (pl 0)), (1, .int (iI x))] [] _ _ _ _
    refine pm_e_sim pm_a141_33 rfl ?_
    show pm_E _ _ _ 34 [(0, .ref (pl 0)), (1, .int (iI x))] [.ref (pl 0)] _ _ _ _
    refine pm_i_get pm_a141_34 rfl (cg_0 hW) rfl ?_
    show pm_E _ _ _ 37 [(0, .ref (pl 0)), (1, .int (iI x))] [.ref (pl 1)] _ _ _ _
    refine pm_i_get pm_a141_37 rfl (cg_1 hW) rfl ?_
    show pm_E _ _ _ 40 [(0, .ref (pl 0)), (1, .int (iI x))] [.int (iI (s 4))] _ _ _ _
    refine pm_e_ret pm_a141_40 rfl rfl rfl rfl rfl rfl rfl rfl ?_
    exact k _ (by omega) (by omega) (by omega) (by omega)
  by_cases h_3 : x = 2
  · skip
    refine pm_e_top (y := iI 2) (congrArg iI h_3) ?_
    refine pm_e_tsi (t := 41) pm_a141_1 rfl rfl ?_
    show pm_E _ _ _ 41 [(0, .ref (pl 0)), (1, .int (iI x))] [] _ _ _ _
    refine pm_e_sim pm_a141_41 rfl ?_
    show pm_E _ _ _ 42 [(0, .ref (pl 0)), (1, .int (iI x))] [.ref (pl 0)] _ _ _ _
    refine pm_i_callv (k := (pl 0)) (T2 := pm_mm142) pm_a141_42 rfl rfl rfl (cg_0 hW) ⟨Nat.le_of_ble_eq_true rfl, Nat.le_of_ble_eq_true rfl, rfl, by decide +kernel⟩ ?_
    show pm_E none _ _ 0 [(0, .ref (pl 0))] [] _ _ _ _
    refine C_allNodes hW hS hT (fun r hr => ?_)
    show pm_E _ _ _ 45 [(0, .ref (pl 0)), (1, .int (iI x))] [.int (iI r)] _ _ _ _
    refine pm_e_ret pm_a141_45 rfl rfl rfl rfl rfl rfl rfl rfl ?_
    exact k _ (by omega) (by omega) (by omega) (by omega)
  refine pm_e_tso (t := 46) pm_a141_1 (by rw [iI_t ⟨by omega, by omega⟩]; omega) rfl ?_
  show pm_E _ _ _ 46 [(0, .ref (pl 0)), (1, .int (iI x))] [] _ _ _ _
  refine pm_e_sim pm_a141_46 rfl ?_
  refine pm_e_top (y := iI (-1)) (by decide +kernel) ?_
  show pm_E _ _ _ 47 [(0, .ref (pl 0)), (1, .int (iI x))] [.int (iI (-1))] _ _ _ _
  refine pm_e_ret pm_a141_47 rfl rfl rfl rfl rfl rfl rfl rfl ?_
  exact k _ (by omega) (by omega) (by omega) (by omega)
