/-! THE CLASS: Abstracter: abstractInto, the whole -/
set_option maxHeartbeats 4000000 in
set_option maxRecDepth 100000 in
theorem C_out_l {d n : Nat} {kd pl : Nat → Nat} {s : Nat → Int} {a : Nat → Int → Int} {c : Nat → cdt} {M : List va_E} {Q : Option Value → List va_E → Nat → Nat → Prop} {j m : Nat} (hW : wf n kd pl) (h200 : al n kd pl 200) (hj : j < 38 ∧ al n kd pl (60 + 2 * j)) (hm : m < 38 ∧ al n kd pl (60 + 2 * m)) (hin7 : ∀ q, in32 (a 7 q)) : ∀ (f : Nat) (i : Int) (z : cdt) (l : List Int), 0 ≤ i → i ≤ 1500 → md z (rm m) l → (∀ z2, md z2 (rm m) (l ++ rg (a 7) (1500 - i).toNat i) → pm_E none (d + 4) pm_mm95 101 [(0, .ref (pl 200)), (1, .ref (pl (60 + 2 * j))), (2, .ref (pl (60 + 2 * m))), (3, .int (iI 1))] [] (ch n kd pl s a (updC c m z2) M) 0 0 Q) → 1500 - i < (f : Int) → pm_E none (d + 4) pm_mm95 66 [(0, .ref (pl 200)), (1, .ref (pl (60 + 2 * j))), (2, .ref (pl (60 + 2 * m))), (3, .int (iI 1)), (4, .int (iI i))] [] (ch n kd pl s a (updC c m z) M) 0 0 Q := by
  intro f
  induction f with
  | zero =>
    intro i z l hi0 hi1 hl k hf
    exfalso; omega
  | succ f ih =>
    intro i z l hi0 hi1 hl k hf
    obtain ⟨p1, p2, p3, p4⟩ := id hl.1
    refine pm_e_sim pm_a95_66 rfl ?_
    show pm_E _ _ _ 68 [(0, .ref (pl 200)), (1, .ref (pl (60 + 2 * j))), (2, .ref (pl (60 + 2 * m))), (3, .int (iI 1)), (4, .int (iI i))] [.int (iI i)] _ _ _ _
    refine pm_e_sim pm_a95_68 rfl ?_
    refine pm_e_top (y := iI 1500) (by decide +kernel) ?_
    show pm_E _ _ _ 71 [(0, .ref (pl 200)), (1, .ref (pl (60 + 2 * j))), (2, .ref (pl (60 + 2 * m))), (3, .int (iI 1)), (4, .int (iI i))] [.int (iI 1500), .int (iI i)] _ _ _ _
    refine pm_c_ge (t := 101) pm_a95_71 rfl ⟨by omega, by omega⟩ ⟨by omega, by omega⟩ (fun h_1 => ?_) (fun h_1 => ?_)
    · skip
      show pm_E _ _ _ 101 [(0, .ref (pl 200)), (1, .ref (pl (60 + 2 * j))), (2, .ref (pl (60 + 2 * m))), (3, .int (iI 1)), (4, .int (iI i))] [] _ _ _ _
      show pm_E _ _ _ 101 ([(0, .ref (pl 200)), (1, .ref (pl (60 + 2 * j))), (2, .ref (pl (60 + 2 * m))), (3, .int (iI 1))] ++ [(4, .int (iI i))]) [] _ _ _ _
      refine pm_e_more [(4, .int (iI i))] (show ([0, 1, 2, 3, 4] : List Nat).Nodup from by decide) ?_
      by_cases hov : z.2.1 = 0
      · refine k z ?_
        rw [show (1500 - i).toNat = 0 by omega]
        show md z (rm m) (l ++ [])
        rw [List.append_nil]
        exact hl
      · exact k z (md_over hl hov)
    · skip
      show pm_E _ _ _ 74 [(0, .ref (pl 200)), (1, .ref (pl (60 + 2 * j))), (2, .ref (pl (60 + 2 * m))), (3, .int (iI 1)), (4, .int (iI i))] [] _ _ _ _
      refine pm_e_sim pm_a95_74 rfl ?_
      show pm_E _ _ _ 75 [(0, .ref (pl 200)), (1, .ref (pl (60 + 2 * j))), (2, .ref (pl (60 + 2 * m))), (3, .int (iI 1)), (4, .int (iI i))] [.int (iI 1)] _ _ _ _
      refine pm_e_iff pm_a95_75 rfl (by decide +kernel) ?_
      show pm_E _ _ _ 78 [(0, .ref (pl 200)), (1, .ref (pl (60 + 2 * j))), (2, .ref (pl (60 + 2 * m))), (3, .int (iI 1)), (4, .int (iI i))] [] _ _ _ _
      refine pm_e_sim pm_a95_78 rfl ?_
      show pm_E _ _ _ 79 [(0, .ref (pl 200)), (1, .ref (pl (60 + 2 * j))), (2, .ref (pl (60 + 2 * m))), (3, .int (iI 1)), (4, .int (iI i))] [.ref (pl (60 + 2 * m))] _ _ _ _
      refine pm_i_get pm_a95_79 rfl (cg_o hm) rfl ?_
      refine pm_e_top (y := iI ((z).2.1)) (congrArg (fun z : cdt => iI z.2.1) updC_at) ?_
      show pm_E _ _ _ 82 [(0, .ref (pl 200)), (1, .ref (pl (60 + 2 * j))), (2, .ref (pl (60 + 2 * m))), (3, .int (iI 1)), (4, .int (iI i))] [.int (iI ((z).2.1))] _ _ _ _
      refine pm_i_ne (t := 101) pm_a95_82 rfl ⟨by omega, by omega⟩ (fun h_2 => ?_) (fun h_2 => ?_)
      · skip
        show pm_E _ _ _ 101 [(0, .ref (pl 200)), (1, .ref (pl (60 + 2 * j))), (2, .ref (pl (60 + 2 * m))), (3, .int (iI 1)), (4, .int (iI i))] [] _ _ _ _
        show pm_E _ _ _ 101 ([(0, .ref (pl 200)), (1, .ref (pl (60 + 2 * j))), (2, .ref (pl (60 + 2 * m))), (3, .int (iI 1))] ++ [(4, .int (iI i))]) [] _ _ _ _
        refine pm_e_more [(4, .int (iI i))] (show ([0, 1, 2, 3, 4] : List Nat).Nodup from by decide) ?_
        by_cases hov : z.2.1 = 0
        · refine k z ?_
          rw [show (1500 - i).toNat = 0 by omega]
          show md z (rm m) (l ++ [])
          rw [List.append_nil]
          exact hl
        · exact k z (md_over hl hov)
      · skip
        show pm_E _ _ _ 85 [(0, .ref (pl 200)), (1, .ref (pl (60 + 2 * j))), (2, .ref (pl (60 + 2 * m))), (3, .int (iI 1)), (4, .int (iI i))] [] _ _ _ _
        refine pm_e_sim pm_a95_85 rfl ?_
        show pm_E _ _ _ 86 [(0, .ref (pl 200)), (1, .ref (pl (60 + 2 * j))), (2, .ref (pl (60 + 2 * m))), (3, .int (iI 1)), (4, .int (iI i))] [.ref (pl (60 + 2 * m))] _ _ _ _
        refine pm_e_sim pm_a95_86 rfl ?_
        show pm_E _ _ _ 87 [(0, .ref (pl 200)), (1, .ref (pl (60 + 2 * j))), (2, .ref (pl (60 + 2 * m))), (3, .int (iI 1)), (4, .int (iI i))] [.ref (pl 200), .ref (pl (60 + 2 * m))] _ _ _ _
        refine pm_e_sim pm_a95_87 rfl ?_
        show pm_E _ _ _ 89 [(0, .ref (pl 200)), (1, .ref (pl (60 + 2 * j))), (2, .ref (pl (60 + 2 * m))), (3, .int (iI 1)), (4, .int (iI i))] [.int (iI i), .ref (pl 200), .ref (pl (60 + 2 * m))] _ _ _ _
        refine pm_i_callv (k := (pl 200)) (T2 := pm_mm98) pm_a95_89 rfl rfl rfl (cg_200 hW h200) ⟨Nat.le_of_ble_eq_true rfl, Nat.le_of_ble_eq_true rfl, rfl, by decide +kernel⟩ ?_
        show pm_E none _ _ 0 [(0, .ref (pl 200)), (1, .int (iI i))] [] _ _ _ _
        refine C_heldAt hW h200 (by omega) (by omega) ?_
        show pm_E _ _ _ 92 [(0, .ref (pl 200)), (1, .ref (pl (60 + 2 * j))), (2, .ref (pl (60 + 2 * m))), (3, .int (iI 1)), (4, .int (iI i))] [.int (iI (a 7 i)), .ref (pl (60 + 2 * m))] _ _ _ _
        refine pm_i_callv (k := (pl (60 + 2 * m))) (T2 := pm_mm40) pm_a95_92 rfl rfl rfl (cg_o hm) ⟨Nat.le_of_ble_eq_true rfl, Nat.le_of_ble_eq_true rfl, rfl, by decide +kernel⟩ ?_
        show pm_E none _ _ 0 [(0, .ref (pl (60 + 2 * m))), (1, .int (iI (a 7 i)))] [] _ _ _ _
        refine C_put hW hm (l := l) (by rw [updC_at]; exact hl) (hin7 i) (fun y hy => ?_)
        rw [updC_s]
        show pm_E _ _ _ 95 [(0, .ref (pl 200)), (1, .ref (pl (60 + 2 * j))), (2, .ref (pl (60 + 2 * m))), (3, .int (iI 1)), (4, .int (iI i))] [] _ _ _ _
        refine pm_e_inc (y := iI (i + 1)) pm_a95_95 rfl (iI_add _ _) (by decide +kernel) rfl ?_
        show pm_E _ _ _ 98 [(0, .ref (pl 200)), (1, .ref (pl (60 + 2 * j))), (2, .ref (pl (60 + 2 * m))), (3, .int (iI 1)), (4, .int (iI (i + 1)))] [] _ _ _ _
        refine pm_e_goto pm_a95_98 rfl ?_
        show pm_E _ _ _ 66 [(0, .ref (pl 200)), (1, .ref (pl (60 + 2 * j))), (2, .ref (pl (60 + 2 * m))), (3, .int (iI 1)), (4, .int (iI (i + 1)))] [] _ _ _ _
        refine ih _ y _ (by omega) (by omega) hy (fun z2 hz => k z2 ?_) (by omega)
        rw [rg_cons (by omega), List.append_cons]
        exact hz
set_option maxHeartbeats 4000000 in
set_option maxRecDepth 100000 in
theorem C_abs_e1 {d n : Nat} {kd pl : Nat → Nat} {s : Nat → Int} {a : Nat → Int → Int} {c : Nat → cdt} {M : List va_E} {Q : Option Value → List va_E → Nat → Nat → Prop} {j m : Nat} {H : List Int} (hW : wf n kd pl) (h200 : al n kd pl 200) (hj : j < 38 ∧ al n kd pl (60 + 2 * j)) (hm : m < 38 ∧ al n kd pl (60 + 2 * m)) (hin7 : ∀ q, in32 (a 7 q)) (hH : hdL s a H) (hm0 : md (c m) (rm m) []) (k1 : ∀ z, md z (rm m) H → H.length ≤ rm m → Q (some (.int (iI 1))) (ch n kd pl s a (updC c m z) M) 0 0) (k0 : ∀ z, okx (rm m) z → rm m < H.length → Q (some (.int (iI 0))) (ch n kd pl s a (updC c m z) M) 0 0) : pm_E none (d + 4) pm_mm95 60 [(0, .ref (pl 200)), (1, .ref (pl (60 + 2 * j))), (2, .ref (pl (60 + 2 * m))), (3, .int (iI 1))] [] (ch n kd pl s a c M) 0 0 Q := by
  obtain ⟨y1, y2, y3⟩ := id hH
  refine pm_e_sim pm_a95_60 rfl ?_
  show pm_E _ _ _ 61 [(0, .ref (pl 200)), (1, .ref (pl (60 + 2 * j))), (2, .ref (pl (60 + 2 * m))), (3, .int (iI 1))] [.ref (pl 200)] _ _ _ _
  refine pm_i_get pm_a95_61 rfl (cg_200 hW h200) rfl ?_
  show pm_E _ _ _ 64 [(0, .ref (pl 200)), (1, .ref (pl (60 + 2 * j))), (2, .ref (pl (60 + 2 * m))), (3, .int (iI 1))] [.int (iI (s 19))] _ _ _ _
  refine pm_e_sim pm_a95_64 rfl ?_
  show pm_E _ _ _ 66 [(0, .ref (pl 200)), (1, .ref (pl (60 + 2 * j))), (2, .ref (pl (60 + 2 * m))), (3, .int (iI 1)), (4, .int (iI (s 19)))] [] _ _ _ _
  refine pm_e_heap (show ch n kd pl s a c M = ch n kd pl s a (updC c m (c m)) M from by rw [updC_self]) ?_
  refine C_out_l hW h200 hj hm hin7 (1500 - (s 19)).toNat.succ (s 19) (c m) [] (by omega) (by omega) hm0 (fun z hz => ?_) (by omega)
  have eH : rg (a 7) (1500 - s 19).toNat (s 19) = H := by rw [show (1500 - s 19).toNat = H.length by omega]; exact y3
  rw [eH] at hz
  have hz2 : md z (rm m) H := hz
  obtain ⟨p1, p2, p3, p4⟩ := id hz.1
  refine pm_e_sim pm_a95_101 rfl ?_
  show pm_E _ _ _ 102 [(0, .ref (pl 200)), (1, .ref (pl (60 + 2 * j))), (2, .ref (pl (60 + 2 * m))), (3, .int (iI 1))] [.int (iI 1)] _ _ _ _
  refine pm_e_iff pm_a95_102 rfl (by decide +kernel) ?_
  show pm_E _ _ _ 105 [(0, .ref (pl 200)), (1, .ref (pl (60 + 2 * j))), (2, .ref (pl (60 + 2 * m))), (3, .int (iI 1))] [] _ _ _ _
  refine pm_e_sim pm_a95_105 rfl ?_
  show pm_E _ _ _ 106 [(0, .ref (pl 200)), (1, .ref (pl (60 + 2 * j))), (2, .ref (pl (60 + 2 * m))), (3, .int (iI 1))] [.ref (pl (60 + 2 * m))] _ _ _ _
  refine pm_i_get pm_a95_106 rfl (cg_o hm) rfl ?_
  refine pm_e_top (y := iI ((z).2.1)) (congrArg (fun z : cdt => iI z.2.1) updC_at) ?_
  show pm_E _ _ _ 109 [(0, .ref (pl 200)), (1, .ref (pl (60 + 2 * j))), (2, .ref (pl (60 + 2 * m))), (3, .int (iI 1))] [.int (iI ((z).2.1))] _ _ _ _
  refine pm_i_ne (t := 116) pm_a95_109 rfl ⟨by omega, by omega⟩ (fun h_31 => ?_) (fun h_31 => ?_)
  · skip
    show pm_E _ _ _ 116 [(0, .ref (pl 200)), (1, .ref (pl (60 + 2 * j))), (2, .ref (pl (60 + 2 * m))), (3, .int (iI 1))] [] _ _ _ _
    refine pm_e_sim pm_a95_116 rfl ?_
    refine pm_e_top (y := iI 0) (by decide +kernel) ?_
    show pm_E _ _ _ 117 [(0, .ref (pl 200)), (1, .ref (pl (60 + 2 * j))), (2, .ref (pl (60 + 2 * m))), (3, .int (iI 1))] [.int (iI 0)] _ _ _ _
    refine pm_e_ret pm_a95_117 rfl rfl rfl rfl rfl rfl rfl rfl ?_
    have hgt : rm m < H.length := by rcases hz2.2 with ⟨_, h, _⟩ | ⟨h, _⟩; omega; exact h
    exact k0 z hz2.1 hgt
  · skip
    show pm_E _ _ _ 112 [(0, .ref (pl 200)), (1, .ref (pl (60 + 2 * j))), (2, .ref (pl (60 + 2 * m))), (3, .int (iI 1))] [] _ _ _ _
    refine pm_e_sim pm_a95_112 rfl ?_
    refine pm_e_top (y := iI 1) (by decide +kernel) ?_
    show pm_E _ _ _ 113 [(0, .ref (pl 200)), (1, .ref (pl (60 + 2 * j))), (2, .ref (pl (60 + 2 * m))), (3, .int (iI 1))] [.int (iI 1)] _ _ _ _
    refine pm_e_goto pm_a95_113 rfl ?_
    show pm_E _ _ _ 117 [(0, .ref (pl 200)), (1, .ref (pl (60 + 2 * j))), (2, .ref (pl (60 + 2 * m))), (3, .int (iI 1))] [.int (iI 1)] _ _ _ _
    refine pm_e_ret pm_a95_117 rfl rfl rfl rfl rfl rfl rfl rfl ?_
    have hle : H.length ≤ rm m := by rcases hz2.2 with ⟨h, _⟩ | ⟨_, h⟩; exact h; omega
    exact k1 z hz2 hle
set_option maxHeartbeats 4000000 in
set_option maxRecDepth 100000 in
theorem C_abs_e0 {d n : Nat} {kd pl : Nat → Nat} {s : Nat → Int} {a : Nat → Int → Int} {c : Nat → cdt} {M : List va_E} {Q : Option Value → List va_E → Nat → Nat → Prop} {j m : Nat} (hW : wf n kd pl) (h200 : al n kd pl 200) (k : Q (some (.int (iI 0))) (ch n kd pl s a c M) 0 0) : pm_E none (d + 4) pm_mm95 60 [(0, .ref (pl 200)), (1, .ref (pl (60 + 2 * j))), (2, .ref (pl (60 + 2 * m))), (3, .int (iI 0))] [] (ch n kd pl s a c M) 0 0 Q := by
  refine pm_e_sim pm_a95_60 rfl ?_
  show pm_E _ _ _ 61 [(0, .ref (pl 200)), (1, .ref (pl (60 + 2 * j))), (2, .ref (pl (60 + 2 * m))), (3, .int (iI 0))] [.ref (pl 200)] _ _ _ _
  refine pm_i_get pm_a95_61 rfl (cg_200 hW h200) rfl ?_
  show pm_E _ _ _ 64 [(0, .ref (pl 200)), (1, .ref (pl (60 + 2 * j))), (2, .ref (pl (60 + 2 * m))), (3, .int (iI 0))] [.int (iI (s 19))] _ _ _ _
  refine pm_e_hav (fun v bv => ?_)
  obtain ⟨_, _⟩ := bv
  show pm_E _ _ _ 64 [(0, .ref (pl 200)), (1, .ref (pl (60 + 2 * j))), (2, .ref (pl (60 + 2 * m))), (3, .int (iI 0))] [.int (iI v)] _ _ _ _
  refine pm_e_sim pm_a95_64 rfl ?_
  show pm_E _ _ _ 66 [(0, .ref (pl 200)), (1, .ref (pl (60 + 2 * j))), (2, .ref (pl (60 + 2 * m))), (3, .int (iI 0)), (4, .int (iI v))] [] _ _ _ _
  refine pm_e_sim pm_a95_66 rfl ?_
  show pm_E _ _ _ 68 [(0, .ref (pl 200)), (1, .ref (pl (60 + 2 * j))), (2, .ref (pl (60 + 2 * m))), (3, .int (iI 0)), (4, .int (iI v))] [.int (iI v)] _ _ _ _
  refine pm_e_sim pm_a95_68 rfl ?_
  refine pm_e_top (y := iI 1500) (by decide +kernel) ?_
  show pm_E _ _ _ 71 [(0, .ref (pl 200)), (1, .ref (pl (60 + 2 * j))), (2, .ref (pl (60 + 2 * m))), (3, .int (iI 0)), (4, .int (iI v))] [.int (iI 1500), .int (iI v)] _ _ _ _
  refine pm_c_ge (t := 101) pm_a95_71 rfl ⟨by omega, by omega⟩ ⟨by omega, by omega⟩ (fun h_31 => ?_) (fun h_31 => ?_)
  · skip
    show pm_E _ _ _ 101 [(0, .ref (pl 200)), (1, .ref (pl (60 + 2 * j))), (2, .ref (pl (60 + 2 * m))), (3, .int (iI 0)), (4, .int (iI v))] [] _ _ _ _
    refine pm_e_sim pm_a95_101 rfl ?_
    show pm_E _ _ _ 102 [(0, .ref (pl 200)), (1, .ref (pl (60 + 2 * j))), (2, .ref (pl (60 + 2 * m))), (3, .int (iI 0)), (4, .int (iI v))] [.int (iI 0)] _ _ _ _
    refine pm_e_ift pm_a95_102 rfl (by decide +kernel) ?_
    show pm_E _ _ _ 116 [(0, .ref (pl 200)), (1, .ref (pl (60 + 2 * j))), (2, .ref (pl (60 + 2 * m))), (3, .int (iI 0)), (4, .int (iI v))] [] _ _ _ _
    refine pm_e_sim pm_a95_116 rfl ?_
    refine pm_e_top (y := iI 0) (by decide +kernel) ?_
    show pm_E _ _ _ 117 [(0, .ref (pl 200)), (1, .ref (pl (60 + 2 * j))), (2, .ref (pl (60 + 2 * m))), (3, .int (iI 0)), (4, .int (iI v))] [.int (iI 0)] _ _ _ _
    refine pm_e_ret pm_a95_117 rfl rfl rfl rfl rfl rfl rfl rfl ?_
    exact k
  · skip
    show pm_E _ _ _ 74 [(0, .ref (pl 200)), (1, .ref (pl (60 + 2 * j))), (2, .ref (pl (60 + 2 * m))), (3, .int (iI 0)), (4, .int (iI v))] [] _ _ _ _
    refine pm_e_sim pm_a95_74 rfl ?_
    show pm_E _ _ _ 75 [(0, .ref (pl 200)), (1, .ref (pl (60 + 2 * j))), (2, .ref (pl (60 + 2 * m))), (3, .int (iI 0)), (4, .int (iI v))] [.int (iI 0)] _ _ _ _
    refine pm_e_ift pm_a95_75 rfl (by decide +kernel) ?_
    show pm_E _ _ _ 101 [(0, .ref (pl 200)), (1, .ref (pl (60 + 2 * j))), (2, .ref (pl (60 + 2 * m))), (3, .int (iI 0)), (4, .int (iI v))] [] _ _ _ _
    refine pm_e_sim pm_a95_101 rfl ?_
    show pm_E _ _ _ 102 [(0, .ref (pl 200)), (1, .ref (pl (60 + 2 * j))), (2, .ref (pl (60 + 2 * m))), (3, .int (iI 0)), (4, .int (iI v))] [.int (iI 0)] _ _ _ _
    refine pm_e_ift pm_a95_102 rfl (by decide +kernel) ?_
    show pm_E _ _ _ 116 [(0, .ref (pl 200)), (1, .ref (pl (60 + 2 * j))), (2, .ref (pl (60 + 2 * m))), (3, .int (iI 0)), (4, .int (iI v))] [] _ _ _ _
    refine pm_e_sim pm_a95_116 rfl ?_
    refine pm_e_top (y := iI 0) (by decide +kernel) ?_
    show pm_E _ _ _ 117 [(0, .ref (pl 200)), (1, .ref (pl (60 + 2 * j))), (2, .ref (pl (60 + 2 * m))), (3, .int (iI 0)), (4, .int (iI v))] [.int (iI 0)] _ _ _ _
    refine pm_e_ret pm_a95_117 rfl rfl rfl rfl rfl rfl rfl rfl ?_
    exact k
set_option maxHeartbeats 4000000 in
set_option maxRecDepth 100000 in
theorem C_abstractInto {d n : Nat} {kd pl : Nat → Nat} {s : Nat → Int} {a : Nat → Int → Int} {c : Nat → cdt} {M : List va_E} {Q : Option Value → List va_E → Nat → Nat → Prop} {j m : Nat} {l : List Int} {f : Nat} (hW : wf n kd pl) (h200 : al n kd pl 200) (hj : j < 38 ∧ al n kd pl (60 + 2 * j)) (hm : m < 38 ∧ al n kd pl (60 + 2 * m)) (hj2 : j ≠ 2) (hj3 : j ≠ 3) (hm2 : m ≠ 2) (hm3 : m ≠ 3) (hin1 : ∀ q, in32 (a 1 q)) (hin7 : ∀ q, in32 (a 7 q)) (ho2 : okx (rm 2) (c 2)) (ho3 : okx (rm 3) (c 3)) (hl : md (c j) (rm j) l) (hlen : l.length ≤ 500) (ht : tL f 0 l) (hm0 : md (c m) (rm m) []) (k1 : ∀ s' a' c' z l' n', frA s a c s' a' c' → md z (rm m) l' → l'.length ≤ 500 → abR n' l (some l') → Q (some (.int (iI 1))) (ch n kd pl s' a' (updC c' m z) M) 0 0) (k0 : ∀ s' a' c' z n', frA s a c s' a' c' → okx (rm m) z → abR n' l none → Q (some (.int (iI 0))) (ch n kd pl s' a' (updC c' m z) M) 0 0) : pm_E none (d + 4) pm_mm95 0 [(0, .ref (pl 200)), (1, .ref (pl (60 + 2 * j))), (2, .ref (pl (60 + 2 * m)))] [] (ch n kd pl s a c M) 0 0 Q := by
  have hrj : rm j = 500 := if_neg hj2
  have hrm : rm m = 500 := if_neg hm2
  have hok := hl.1
  obtain ⟨o1, o2, o3, o4⟩ := id hok
  obtain ⟨hov, hz, hrg⟩ : (c j).2.1 = 0 ∧ (c j).1 = l.length ∧ rg (c j).2.2 l.length 0 = l := by rcases hl.2 with ⟨_, h1, h2, h3⟩ | ⟨h, _⟩; exact ⟨h1, h2, h3⟩; omega
  refine pm_e_sim pm_a95_0 rfl ?_
  show pm_E _ _ _ 1 [(0, .ref (pl 200)), (1, .ref (pl (60 + 2 * j))), (2, .ref (pl (60 + 2 * m)))] [.ref (pl 200)] _ _ _ _
  refine pm_e_sim pm_a95_1 rfl ?_
  refine pm_e_top (y := iI 1500) (by decide +kernel) ?_
  show pm_E _ _ _ 4 [(0, .ref (pl 200)), (1, .ref (pl (60 + 2 * j))), (2, .ref (pl (60 + 2 * m)))] [.int (iI 1500), .ref (pl 200)] _ _ _ _
  refine pm_i_put pm_a95_4 rfl (cg_200 hW h200) rfl (Nat.le_of_ble_eq_true rfl) (Or.inl rfl) (cw_19 hW h200 1500) ?_
  show pm_E _ _ _ 7 [(0, .ref (pl 200)), (1, .ref (pl (60 + 2 * j))), (2, .ref (pl (60 + 2 * m)))] [] _ _ _ _
  refine pm_e_sim pm_a95_7 rfl ?_
  refine pm_e_top (y := iI 1) (by decide +kernel) ?_
  show pm_E _ _ _ 8 [(0, .ref (pl 200)), (1, .ref (pl (60 + 2 * j))), (2, .ref (pl (60 + 2 * m)))] [.int (iI 1)] _ _ _ _
  refine pm_e_sim pm_a95_8 rfl ?_
  show pm_E _ _ _ 9 [(0, .ref (pl 200)), (1, .ref (pl (60 + 2 * j))), (2, .ref (pl (60 + 2 * m))), (3, .int (iI 1))] [] _ _ _ _
  refine pm_e_sim pm_a95_9 rfl ?_
  show pm_E _ _ _ 10 [(0, .ref (pl 200)), (1, .ref (pl (60 + 2 * j))), (2, .ref (pl (60 + 2 * m))), (3, .int (iI 1))] [.ref (pl (60 + 2 * j))] _ _ _ _
  refine pm_i_get pm_a95_10 rfl (cg_o hj) rfl ?_
  show pm_E _ _ _ 13 [(0, .ref (pl 200)), (1, .ref (pl (60 + 2 * j))), (2, .ref (pl (60 + 2 * m))), (3, .int (iI 1))] [.int (iI ((c j).1))] _ _ _ _
  refine pm_e_sim pm_a95_13 rfl ?_
  refine pm_e_top (y := iI 1) (by decide +kernel) ?_
  show pm_E _ _ _ 14 [(0, .ref (pl 200)), (1, .ref (pl (60 + 2 * j))), (2, .ref (pl (60 + 2 * m))), (3, .int (iI 1))] [.int (iI 1), .int (iI ((c j).1))] _ _ _ _
  refine pm_e_sim pm_a95_14 rfl ?_
  refine pm_e_top (y := iI ((c j).1 - 1)) (iI_sub _ _) ?_
  show pm_E _ _ _ 15 [(0, .ref (pl 200)), (1, .ref (pl (60 + 2 * j))), (2, .ref (pl (60 + 2 * m))), (3, .int (iI 1))] [.int (iI ((c j).1 - 1))] _ _ _ _
  refine pm_e_sim pm_a95_15 rfl ?_
  show pm_E _ _ _ 17 [(0, .ref (pl 200)), (1, .ref (pl (60 + 2 * j))), (2, .ref (pl (60 + 2 * m))), (3, .int (iI 1)), (4, .int (iI ((c j).1 - 1)))] [] _ _ _ _
  refine C_abs_l (l := l) hW h200 hj hm hj2 hj3 hok (by omega) ((c j).1.toNat + 1) ((c j).1 - 1) _ a c [] (by omega) (by omega) rfl ho2 ho3 hin1 hin7 ⟨by simp, by simp [updS], rfl⟩ ?_ (Or.inl rfl) (fun s1 a1 c1 H fr hH hI => ?_) (fun s1 a1 c1 fr hn => ?_) (by omega)
  · rw [show (c j).1 - 1 + 1 = (c j).1 by omega, hz, show ((l.length : Int)).toNat = l.length by omega, hrg]
    refine ⟨⟨f, by rw [List.append_nil]; exact ht⟩, fun v hv => absurd hv (List.not_mem_nil), fun n o ho => ⟨n, by rw [List.append_nil] at ho; exact ho⟩⟩
  · have fr2 : frA s a c (updS s 19 (s1 19)) a1 c1 := ⟨fun i hi => by unfold updS; rw [if_neg hi], fr.2.1, fr.2.2.1, fr.2.2.2.1, fr.2.2.2.2.1, fr.2.2.2.2.2.1, fr.2.2.2.2.2.2⟩
    have hs1 : s1 = updS s 19 (s1 19) := by funext i; by_cases hi : i = 19; subst hi; simp [updS]; rw [fr.1 i hi]; simp [updS, hi]
    have cm : c1 m = c m := fr.2.2.2.2.1 m hm2 hm3
    have hno := hI.2.1
    have ha0 : abR 0 ([] ++ H) (if H.length ≤ 500 then some H else none) := ⟨hno, rfl⟩
    obtain ⟨n1, hn1⟩ := hI.2.2 _ _ ha0
    refine C_abs_e1 (H := H) hW h200 hj hm fr.2.2.2.1 hH (by rw [cm]; exact hm0) (fun z hz1 hz2 => ?_) (fun z hz1 hz2 => ?_)
    · rw [hrm] at hz2
      rw [if_pos hz2] at hn1
      exact k1 s1 a1 c1 z H n1 (by rw [hs1]; exact fr2) hz1 hz2 hn1
    · rw [hrm] at hz2
      rw [if_neg (by omega)] at hn1
      exact k0 s1 a1 c1 z n1 (by rw [hs1]; exact fr2) hz1 hn1
  · obtain ⟨n1, hn1⟩ := hn
    have fr2 : frA s a c (updS s 19 (s1 19)) a1 c1 := ⟨fun i hi => by unfold updS; rw [if_neg hi], fr.2.1, fr.2.2.1, fr.2.2.2.1, fr.2.2.2.2.1, fr.2.2.2.2.2.1, fr.2.2.2.2.2.2⟩
    have hs1 : s1 = updS s 19 (s1 19) := by funext i; by_cases hi : i = 19; subst hi; simp [updS]; rw [fr.1 i hi]; simp [updS, hi]
    have cm : c1 m = c m := fr.2.2.2.2.1 m hm2 hm3
    refine C_abs_e0 hW h200 ?_
    refine pm_q_heap (show ch n kd pl s1 a1 c1 M = ch n kd pl s1 a1 (updC c1 m (c1 m)) M from by rw [updC_self]) ?_
    exact k0 s1 a1 c1 (c1 m) n1 (by rw [hs1]; exact fr2) (by rw [cm]; exact hm0.1) hn1
