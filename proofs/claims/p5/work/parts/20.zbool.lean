/-! rows of booleans -/
section PMB
variable {scr : Option (Nat × (Nat → Int32))} {d : Nat} {T : pm_M} {pc : Nat} {lv : pm_L} {st : List Value} {ph ph1 : List va_E} {nc ns : Nat} {Q : Option Value → List va_E → Nat → Nat → Prop} {len k n : Nat} {g : Int → Int} {x y : Int}
theorem pm_i_bld (h0 : pm_as (pm_cd T) pc = some (.baload, len)) (hk : ph[k]? = some (.inl (1, n, .inl (aI g)))) (h1 : 0 ≤ x) (h2 : x < n) (h3 : in32 x) (kk : pm_E scr d T (pc + 1) lv (.int (iI (g x)) :: st) ph nc ns Q) : pm_E scr d T pc lv (.int (iI x) :: .ref k :: st) ph nc ns Q :=
  pm_e_rd h0 rfl rfl (by
    show ((pm_ia ph k 1).bind fun w => (pm_ix (iI x) w.1).bind fun j => some (.int (w.2 j) :: st)) = _
    unfold pm_ia
    rw [hk]
    dsimp only
    rw [if_pos rfl]
    show ((pm_ix (iI x) n).bind fun j => some (.int (aI g j) :: st)) = _
    rw [pm_ix_I h1 h2 h3]
    show some (Value.int (aI g x.toNat) :: st) = _
    unfold aI
    rw [show ((x.toNat : Nat) : Int) = x by omega]) kk
theorem pm_i_bst (h0 : pm_as (pm_cd T) pc = some (.bastore, len)) (hk : ph[k]? = some (.inl (1, n, .inl (aI g)))) (h1 : 0 ≤ x) (h2 : x < n) (h3 : in32 x) (hv : vp_nar .boolean (iI y) = iI y) (hs : ph.set k (.inl (1, n, .inl (aI (updI g x y)))) = ph1) (kk : pm_E scr d T (pc + 1) lv st ph1 nc ns Q) : pm_E scr d T pc lv (.int (iI y) :: .int (iI x) :: .ref k :: st) ph nc ns Q :=
  pm_e_wr h0 rfl rfl rfl (by
    show ((pm_ia ph k 1).bind fun w => (pm_ix (iI x) w.1).bind fun j => some (st, k, (.inl (1, w.1, .inl (upd w.2 j (vp_nar .boolean (iI y)))) : va_E))) = _
    unfold pm_ia
    rw [hk]
    dsimp only
    rw [if_pos rfl]
    show ((pm_ix (iI x) n).bind fun j => some (st, k, (.inl (1, n, .inl (upd (aI g) j (vp_nar .boolean (iI y)))) : va_E))) = _
    rw [pm_ix_I h1 h2 h3, hv]
    show some (st, k, (.inl (1, n, .inl (upd (aI g) x.toNat (iI y))) : va_E)) = _
    rw [← iI_n h3, aI_upd h1 h3]) hs kk
end PMB
