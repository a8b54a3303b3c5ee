/-! THE CLASS: a Code is made: its constructor -/
section PMN
variable {scr : Option (Nat × (Nat → Int32))} {d : Nat} {T : pm_M} {pc : Nat} {lv : pm_L} {st : List Value} {ph ph1 : List va_E} {nc ns : Nat} {Q : Option Value → List va_E → Nat → Nat → Prop} {len k n p idx ci j nd : Nat} {ps : Nat} {fs : List Value} {v : Value} {x : Int} {g : Nat → Option Nat}
theorem pm_i_aas (h0 : pm_as (pm_cd T) pc = some (.aastore, len)) (hk : ph[k]? = some (.inl (3, n, .inr (.inr (.inr (.inr g)))))) (h1 : 0 ≤ x) (h2 : x < n) (h3 : in32 x) (hp : ph[p]? = some (.inr (1, fs))) (hs : ph.set k (.inl (3, n, .inr (.inr (.inr (.inr (va_up g x.toNat (some p))))))) = ph1) (kk : pm_E scr d T (pc + 1) lv st ph1 nc ns Q) : pm_E scr d T pc lv (.ref p :: .int (iI x) :: .ref k :: st) ph nc ns Q :=
  pm_e_wr h0 rfl rfl rfl (by
    show ((pm_ra ph k 3).bind fun w => (pm_ix (iI x) w.1).bind fun j => (pm_ob ph p pm_cC).bind fun _ => some (st, k, (.inl (3, w.1, .inr (.inr (.inr (.inr (va_up w.2 j (some p)))))) : va_E))) = _
    unfold pm_ra pm_ob
    rw [hk, hp]
    dsimp only
    rw [if_pos rfl]
    show ((pm_ix (iI x) n).bind fun j => (if (1 : Nat) = pm_cC then some fs else none).bind fun _ => some (st, k, (.inl (3, n, .inr (.inr (.inr (.inr (va_up g j (some p)))))) : va_E))) = _
    rw [pm_ix_I h1 h2 h3]
    rfl) hs kk
end PMN
theorem C_init5 {d k L nc ns : Nat} {ph : List va_E} {Q : Option Value → List va_E → Nat → Nat → Prop} (hk : ph[k]? = some (.inr (1, [.null, .int 0, .int 0]))) (hL : ph.length = L) (kk : Q none ((ph ++ ([.inl (0, 500, .inl (fun _ => 0))] : List va_E)).set k (.inr (1, [.ref L, .int 0, .int 0]))) (nc + 1) (ns + 500)) : pm_E none d pm_mm3 0 [(0, .ref k), (1, .int (iI 500))] [] ph nc ns Q := by
  refine pm_e_sim pm_a3_0 rfl ?_
  show pm_E _ _ _ 1 [(0, .ref k), (1, .int (iI 500))] [.ref k] _ _ _ _
  refine pm_e_nat pm_a3_1 rfl rfl rfl rfl rfl rfl ?_
  show pm_E _ _ _ 4 [(0, .ref k), (1, .int (iI 500))] [] _ _ _ _
  refine pm_e_sim pm_a3_4 rfl ?_
  refine pm_e_sim pm_a3_5 rfl ?_
  refine pm_e_sim pm_a3_6 rfl ?_
  refine pm_e_top (y := iI 0) (by decide +kernel) ?_
  show pm_E _ _ _ 7 [(0, .ref k), (1, .int (iI 500))] [.int (iI 0), .int (iI 500), .ref k] _ _ _ _
  refine pm_i_max pm_a3_7 rfl (Nat.le_of_ble_eq_true rfl) (by decide) (by decide) ?_
  refine pm_e_top (y := iI 500) (by decide +kernel) ?_
  show pm_E _ _ _ 10 [(0, .ref k), (1, .int (iI 500))] [.int (iI 500), .ref k] _ _ _ _
  refine pm_e_nw (e2 := .inl (0, 500, .inl (fun _ => 0))) (n2 := 500) (st2 := [.ref k]) pm_a3_10 rfl rfl rfl rfl rfl rfl hL ?_
  show pm_E _ _ _ 12 [(0, .ref k), (1, .int (iI 500))] [.ref L, .ref k] _ _ _ _
  have hlt : k < ph.length := (List.getElem?_eq_some_iff.mp hk).1
  refine pm_e_wr (k2 := k) (e2 := .inr (1, [.ref L, .int 0, .int 0])) (st2 := []) pm_a3_12 rfl rfl rfl ?_ rfl ?_
  · show pm_pf pm_mm3 15 [.ref L, .ref k] (ph ++ ([.inl (0, 500, .inl (fun _ => 0))] : List va_E)) = _
    unfold pm_pf
    show ((pm_fr (pm_cn pm_mm3) 15).bind fun w => (pm_ob (ph ++ ([.inl (0, 500, .inl (fun _ => 0))] : List va_E)) k w.1).bind fun fs => if pm_fit (pm_fty w.1 w.2.1) (.ref L) = true ∧ w.2.1 < fs.length ∧ (w.2.2.1 = 0 ∨ w.2.2.1 = 1 ∨ (w.2.2.1 = 2 ∧ pm_ini pm_mm3 = true ∧ w.1 = pm_cn pm_mm3)) then some ([], k, (.inr (w.1, fs.set w.2.1 (.ref L)) : va_E)) else none) = _
    have hob : pm_ob (ph ++ ([.inl (0, 500, .inl (fun _ => 0))] : List va_E)) k 1 = some [.null, .int 0, .int 0] := by
      unfold pm_ob
      rw [List.getElem?_append_left hlt, hk]
      rfl
    show ((pm_ob (ph ++ ([.inl (0, 500, .inl (fun _ => 0))] : List va_E)) k 1).bind _) = _
    rw [hob]
    rfl
  · show pm_E _ _ _ 15 [(0, .ref k), (1, .int (iI 500))] [] _ _ _ _
    refine pm_e_ret pm_a3_15 rfl rfl rfl rfl rfl rfl rfl rfl ?_
    exact kk
