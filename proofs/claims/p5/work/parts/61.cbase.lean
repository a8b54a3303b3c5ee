/-! THE CLASS: lengths, Math, copies in words of Int; a code that is laid -/
section PMC
variable {scr : Option (Nat × (Nat → Int32))} {d : Nat} {T : pm_M} {pc : Nat} {lv : pm_L} {st : List Value} {ph ph1 : List va_E} {nc ns : Nat} {Q : Option Value → List va_E → Nat → Nat → Prop} {len k k2 n n2 t : Nat} {x y z : Int} {f : Nat → Int32} {g : Nat → Option Nat} {idx : Nat}
theorem iI_nat {n : Nat} : Int32.ofNat n = iI (n : Int) := (Int32.ofInt_eq_ofNat).symm
theorem pm_i_aln (h0 : pm_as (pm_cd T) pc = some (.arraylength, len)) (hk : ph[k]? = some (.inl (t, n, .inl f))) (kk : pm_E scr d T (pc + 1) lv (.int (iI (n : Int)) :: st) ph nc ns Q) : pm_E scr d T pc lv (.ref k :: st) ph nc ns Q :=
  pm_e_rd h0 rfl rfl (by
    show ((pm_aln ph k).bind fun n => some (Value.int (Int32.ofNat n) :: st)) = some (Value.int (iI (n : Int)) :: st)
    unfold pm_aln
    rw [hk]
    show some (Value.int (Int32.ofNat n) :: st) = _
    rw [iI_nat]) kk
theorem pm_i_alr (h0 : pm_as (pm_cd T) pc = some (.arraylength, len)) (hk : ph[k]? = some (.inl (t, n, .inr (.inr (.inr (.inr g)))))) (kk : pm_E scr d T (pc + 1) lv (.int (iI (n : Int)) :: st) ph nc ns Q) : pm_E scr d T pc lv (.ref k :: st) ph nc ns Q :=
  pm_e_rd h0 rfl rfl (by
    show ((pm_aln ph k).bind fun n => some (Value.int (Int32.ofNat n) :: st)) = some (Value.int (iI (n : Int)) :: st)
    unfold pm_aln
    rw [hk]
    show some (Value.int (Int32.ofNat n) :: st) = _
    rw [iI_nat]) kk
theorem pm_i_max {M p1 p2 p3 : Nat} (h0 : pm_as (pm_cd T) pc = some (.invokestatic idx, len)) (hm : pm_mr (pm_cn T) idx = some (5, M, p1, p2, p3)) (hs : pm_sum st ≤ 8) (hx : in32 x) (hy : in32 y) (kk : pm_E scr d T (pc + 3) lv (.int (iI (max x y)) :: st) ph nc ns Q) : pm_E scr d T pc lv (.int (iI y) :: .int (iI x) :: st) ph nc ns Q :=
  pm_e_nat h0 rfl rfl rfl rfl rfl (st2 := .int (iI (max x y)) :: st) (by
    show ((pm_mr (pm_cn T) idx).bind fun w => pm_mx w.1 (.int (iI y) :: .int (iI x) :: st)) = _
    rw [hm]
    show (if pm_sum st ≤ 8 then (if (5 : Nat) = 5 then some (.int (if iI x < iI y then iI y else iI x) :: st) else _) else none) = _
    rw [if_pos hs, if_pos rfl]
    congr 2
    by_cases h : x < y
    · rw [if_pos ((iI_lt hx hy).mpr h), show max x y = y by omega]
    · rw [if_neg (fun q => h ((iI_lt hx hy).mp q)), show max x y = x by omega]) kk
theorem pm_i_min {M p1 p2 p3 : Nat} (h0 : pm_as (pm_cd T) pc = some (.invokestatic idx, len)) (hm : pm_mr (pm_cn T) idx = some (6, M, p1, p2, p3)) (hs : pm_sum st ≤ 8) (hx : in32 x) (hy : in32 y) (kk : pm_E scr d T (pc + 3) lv (.int (iI (min x y)) :: st) ph nc ns Q) : pm_E scr d T pc lv (.int (iI y) :: .int (iI x) :: st) ph nc ns Q :=
  pm_e_nat h0 rfl rfl rfl rfl rfl (st2 := .int (iI (min x y)) :: st) (by
    show ((pm_mr (pm_cn T) idx).bind fun w => pm_mx w.1 (.int (iI y) :: .int (iI x) :: st)) = _
    rw [hm]
    show (if pm_sum st ≤ 8 then (if (6 : Nat) = 5 then _ else if (6 : Nat) = 6 then some (.int (if iI y < iI x then iI y else iI x) :: st) else none) else none) = _
    rw [if_pos hs, if_neg (by decide), if_pos rfl]
    congr 2
    by_cases h : y < x
    · rw [if_pos ((iI_lt hy hx).mpr h), show min x y = y by omega]
    · rw [if_neg (fun q => h ((iI_lt hy hx).mp q)), show min x y = x by omega]) kk
/-- a part of f from sp on over g from dp on -/
def cyI (f g : Int → Int) (sp dp n : Int) : Int → Int := fun j => if dp ≤ j ∧ j < dp + n then f (sp + (j - dp)) else g j
theorem cyI_a {f g : Int → Int} {sp dp n : Int} (h0 : 0 ≤ sp) (h1 : 0 ≤ dp) (h2 : 0 ≤ n) : va_cpy (aI f) (aI g) sp.toNat dp.toNat n.toNat = aI (cyI f g sp dp n) := by
  funext j
  unfold va_cpy aI cyI
  by_cases h : dp.toNat ≤ j ∧ j < dp.toNat + n.toNat
  · rw [if_pos h, if_pos (by omega), show ((sp.toNat + (j - dp.toNat) : Nat) : Int) = sp + ((j : Int) - dp) by omega]
  · rw [if_neg h, if_neg (by omega)]
theorem pm_i_cpy {M p1 p2 p3 : Nat} {f g : Int → Int} (h0 : pm_as (pm_cd T) pc = some (.invokestatic idx, len)) (hm : pm_mr (pm_cn T) idx = some (7, M, p1, p2, p3)) (hs : pm_sum st ≤ 8) (hk : ph[k]? = some (.inl (0, n, .inl (aI f)))) (hk2 : ph[k2]? = some (.inl (0, n2, .inl (aI g)))) (hx : in32 x) (hy : in32 y) (hz : in32 z) (x0 : 0 ≤ x) (y0 : 0 ≤ y) (z0 : 0 ≤ z) (hxz : x + z ≤ n) (hyz : y + z ≤ n2) (hset : ph.set k2 (.inl (0, n2, .inl (aI (cyI f g x y z)))) = ph1) (kk : pm_E scr d T (pc + 3) lv st ph1 nc ns Q) : pm_E scr d T pc lv (.int (iI z) :: .int (iI y) :: .ref k2 :: .int (iI x) :: .ref k :: st) ph nc ns Q := by
  obtain ⟨f9, v, ph2, nc2, ns2, h, hq⟩ := kk
  refine ⟨f9 + 1, v, ph2, nc2, ns2, ?_, hq⟩
  unfold pm_run
  have e1 : pm_mx 7 (.int (iI z) :: .int (iI y) :: .ref k2 :: .int (iI x) :: .ref k :: st) = none := by
    show (if pm_sum (Value.ref k2 :: .int (iI x) :: .ref k :: st) ≤ 8 then (if (7 : Nat) = 5 then _ else if (7 : Nat) = 6 then _ else none) else none) = none
    rw [if_neg (show ¬ (7 : Nat) = 5 by decide), if_neg (show ¬ (7 : Nat) = 6 by decide)]
    split <;> rfl
  have e2 : pm_nat T (.invokestatic idx) (.int (iI z) :: .int (iI y) :: .ref k2 :: .int (iI x) :: .ref k :: st) = none := by
    show ((pm_mr (pm_cn T) idx).bind fun w => pm_mx w.1 _) = none
    rw [hm]; exact e1
  have nx : ¬ iI x < 0 := fun q => by have := (iI_lt hx in32_0).mp q; omega
  have ny : ¬ iI y < 0 := fun q => by have := (iI_lt hy in32_0).mp q; omega
  have nz : ¬ iI z < 0 := fun q => by have := (iI_lt hz in32_0).mp q; omega
  have e3 : pm_cpw T (.invokestatic idx) (.int (iI z) :: .int (iI y) :: .ref k2 :: .int (iI x) :: .ref k :: st) ph = some (st, k2, .inl (0, n2, .inl (aI (cyI f g x y z)))) := by
    show ((pm_mr (pm_cn T) idx).bind fun w => pm_cp5 w.1 _ ph) = _
    rw [hm]
    show ((pm_ia ph k 0).bind fun a => (pm_ia ph k2 0).bind fun b => if (7 : Nat) = 7 ∧ ¬ iI x < 0 ∧ ¬ iI y < 0 ∧ ¬ iI z < 0 ∧ (iI x).toNatClampNeg + (iI z).toNatClampNeg ≤ a.1 ∧ (iI y).toNatClampNeg + (iI z).toNatClampNeg ≤ b.1 ∧ pm_sum st ≤ 8 then some (st, k2, (.inl (0, b.1, .inl (va_cpy a.2 b.2 (iI x).toNatClampNeg (iI y).toNatClampNeg (iI z).toNatClampNeg)) : va_E)) else none) = _
    have i1 : pm_ia ph k 0 = some (n, aI f) := by unfold pm_ia; rw [hk]; rfl
    have i2 : pm_ia ph k2 0 = some (n2, aI g) := by unfold pm_ia; rw [hk2]; rfl
    rw [i1, i2]
    show (if _ then _ else none) = _
    rw [iI_n hx, iI_n hy, iI_n hz, if_pos ⟨rfl, nx, ny, nz, by show x.toNat + z.toNat ≤ n; omega, by show y.toNat + z.toNat ≤ n2; omega, hs⟩]
    show some (st, k2, (.inl (0, n2, .inl (va_cpy (aI f) (aI g) x.toNat y.toNat z.toNat)) : va_E)) = _
    rw [cyI_a x0 y0 z0]
  have a1 : pm_sim (pm_ml T) (.invokestatic idx) lv (.int (iI z) :: .int (iI y) :: .ref k2 :: .int (iI x) :: .ref k :: st) = none := rfl
  have a2 : pm_jmp (.invokestatic idx) pc (.int (iI z) :: .int (iI y) :: .ref k2 :: .int (iI x) :: .ref k :: st) = none := rfl
  have a3 : pm_rd T scr (.invokestatic idx) (.int (iI z) :: .int (iI y) :: .ref k2 :: .int (iI x) :: .ref k :: st) ph = none := rfl
  have a4 : pm_wr T (.invokestatic idx) (.int (iI z) :: .int (iI y) :: .ref k2 :: .int (iI x) :: .ref k :: st) ph = none := rfl
  have a5 : pm_nw T (.invokestatic idx) (.int (iI z) :: .int (iI y) :: .ref k2 :: .int (iI x) :: .ref k :: st) = none := rfl
  simp only [h0, a1, a2, a3, a4, a5, e2, e3, hset]
  exact h
end PMC
def atI (y : cdt) (i : Int) : Int := if 0 ≤ i ∧ i < y.1 then y.2.2 i else -1
theorem atI_y {y : cdt} {i : Int} (h : 0 ≤ i) (h1 : i < y.1) : atI y i = y.2.2 i := if_pos ⟨h, h1⟩
theorem atI_n {y : cdt} {i : Int} (h : i < 0 ∨ y.1 ≤ i) : atI y i = -1 := if_neg (by omega)
def okx (R : Nat) (x : cdt) : Prop := 0 ≤ x.1 ∧ x.1 ≤ R ∧ (x.2.1 = 0 ∨ x.2.1 = 1) ∧ ∀ i, in32 (x.2.2 i)
theorem atI_in {R : Nat} {y : cdt} (h : okx R y) (i : Int) : in32 (atI y i) := by
  unfold atI
  split
  · exact h.2.2.2 i
  · decide
/-- what is laid into a code: l, or it is over -/
def md (x : cdt) (R : Nat) (l : List Int) : Prop := okx R x ∧ ((l.length ≤ R ∧ x.2.1 = 0 ∧ x.1 = l.length ∧ rg x.2.2 l.length 0 = l) ∨ (R < l.length ∧ x.2.1 = 1))
theorem cj0 {n : Nat} {kd pl : Nat → Nat} (hW : wf n kd pl) : (0 : Nat) < 38 ∧ al n kd pl (60 + 2 * 0) := ⟨by decide, hW.2.1 60 (by decide)⟩
theorem cj1 {n : Nat} {kd pl : Nat → Nat} (hW : wf n kd pl) : (1 : Nat) < 38 ∧ al n kd pl (60 + 2 * 1) := ⟨by decide, hW.2.1 62 (by decide)⟩
theorem cj2 {n : Nat} {kd pl : Nat → Nat} (hW : wf n kd pl) (h : al n kd pl 200) : (2 : Nat) < 38 ∧ al n kd pl (60 + 2 * 2) := ⟨by decide, hW.2.2.2.1 h 64 (by decide)⟩
theorem cj3 {n : Nat} {kd pl : Nat → Nat} (hW : wf n kd pl) (h : al n kd pl 200) : (3 : Nat) < 38 ∧ al n kd pl (60 + 2 * 3) := ⟨by decide, hW.2.2.2.1 h 66 (by decide)⟩
theorem cj4 {n : Nat} {kd pl : Nat → Nat} (hW : wf n kd pl) (h : al n kd pl 203) : (4 : Nat) < 38 ∧ al n kd pl (60 + 2 * 4) := ⟨by decide, hW.2.2.2.2.1 h 68 (by decide)⟩
theorem cj5 {n : Nat} {kd pl : Nat → Nat} (hW : wf n kd pl) (h : al n kd pl 203) : (5 : Nat) < 38 ∧ al n kd pl (60 + 2 * 5) := ⟨by decide, hW.2.2.2.2.1 h 70 (by decide)⟩
